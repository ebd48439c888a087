def lcI (c : Nat) : Int32 := nI c - 1
theorem lcI_succ (c : Nat) : lcI (c + 1) = nI c := nI_pred c
theorem lcI_toInt {c : Nat} (h : c < 2 ^ 30) : (lcI c).toInt = (c : Int) - 1 := by
  show (nI c - nI 1).toInt = _
  rw [pk_sub_toInt h (by decide)]
  rfl
theorem lcI_lt {c x : Nat} (hc : c < 2 ^ 30) (hx : x < 2 ^ 31) : lcI c < nI x ↔ c ≤ x := by
  rw [Int32.lt_iff_toInt_lt, lcI_toInt hc, nI_toInt hx]
  omega
/-- PUSH in plain numbers -/
def puN (P U : Nat → Nat) (k x : Nat) : Nat := U k + (U (k + 1) - U k) * (x - P k) / (P (k + 1) - P k)
theorem mono_U {U : Nat → Nat} {np : Nat} (h : ∀ i, i + 1 < np → U i ≤ U (i + 1)) : ∀ {a b : Nat}, a ≤ b → b < np → U a ≤ U b := by
  intro a b hab hb
  induction b with
  | zero => have : a = 0 := by omega
            subst this; simp
  | succ b ih =>
    by_cases e : a = b + 1
    · subst e; simp
    · have := ih (by omega) (by omega)
      have := h b (by omega)
      omega
theorem WFf.P_le {rec : Nat → Int32} {f np : Nat} {P U : Nat → Nat} {ke pr : Nat} (WF : WFf rec f np P U ke pr) {i : Nat} (hi : i < np) : P i ≤ 95 := by
  have := mono_P WF.2.2.2.2.2.1 (a := i) (b := np - 1) (by omega) (by omega)
  have := WF.2.2.2.2.2.2.1
  omega
theorem WFf.U_le {rec : Nat → Int32} {f np : Nat} {P U : Nat → Nat} {ke pr : Nat} (WF : WFf rec f np P U ke pr) {i : Nat} (hi : i < np) : U i ≤ 60000 := by
  have := mono_U WF.2.2.2.2.2.2.2.2.1 (a := i) (b := np - 1) (by omega) (by omega)
  have := WF.2.2.2.2.2.2.2.2.2.1
  omega
theorem IsSeg.P_le {P : Nat → Nat} {np x k : Nat} (h0 : P 0 = 0) (h : IsSeg P np x k) : P k ≤ x := by
  obtain ⟨-, -, h3⟩ := h
  rcases h3 with rfl | h3
  · omega
  · omega
theorem puN_le {P U : Nat → Nat} {k x : Nat} (hU : U k ≤ U (k + 1)) (hx : x ≤ P (k + 1)) (hP : P k < P (k + 1)) : puN P U k x ≤ U (k + 1) := by
  unfold puN
  have h1 : (U (k + 1) - U k) * (x - P k) ≤ (U (k + 1) - U k) * (P (k + 1) - P k) := Nat.mul_le_mul_left _ (by omega)
  have h2 : (U (k + 1) - U k) * (x - P k) / (P (k + 1) - P k) ≤ U (k + 1) - U k := Nat.div_le_of_le_mul (by rw [Nat.mul_comm (P (k + 1) - P k)]; exact h1)
  omega
theorem puR_nat {rec : Nat → Int32} {f np : Nat} {P U : Nat → Nat} {ke pr : Nat} (WF : WFf rec f np P U ke pr) {x k : Nat} (hs : IsSeg P np x k) : puR rec f k x = nI (puN P U k x) ∧ puN P U k x ≤ 60000 := by
  obtain ⟨s1, s2, s3⟩ := id hs
  have p1 := WF.2.2.2.1 k (by omega)
  have p2 := WF.2.2.2.1 (k + 1) (by omega)
  have u1 := WF.2.2.2.2.2.2.2.1 k (by omega)
  have u2 := WF.2.2.2.2.2.2.2.1 (k + 1) (by omega)
  have l1 := WF.2.2.2.2.2.1 k (by omega)
  have l2 := WF.2.2.2.2.2.2.2.2.1 k (by omega)
  have b1 := WF.P_le (i := k + 1) (by omega)
  have b2 := WF.U_le (i := k + 1) (by omega)
  have b3 := hs.P_le WF.2.2.2.2.1
  refine ⟨?_, Nat.le_trans (puN_le l2 s2 l1) b2⟩
  unfold puR puX puN
  have hm : (U (k + 1) - U k) * (x - P k) ≤ 60000 * 95 := Nat.mul_le_mul (by omega) (by omega)
  dsimp only
  rw [show rec (f + 11 + k) = nI (U k) from u1, show rec (f + 11 + (k + 1)) = nI (U (k + 1)) from u2, show rec (f + 3 + k) = nI (P k) from p1, show rec (f + 3 + (k + 1)) = nI (P (k + 1)) from p2,
    pk_sub l2, pk_sub b3, pk_sub (Nat.le_of_lt l1), pk_mul, pk_div (by omega) (by omega) (by omega), nI_add]
/-- a FOAM's cells -/
def FoamAt (h : List PE) (rec : Nat → Int32) (f np a : Nat) : Prop := 51 ≤ a ∧ ∃ (p q : Nat) (g1 g2 : Nat → Int32), 51 ≤ p ∧ 51 ≤ q ∧ h[a]? = some (cO 6 [.ref p, .ref q, .int (nI np), .int (rec (f + 1)), .int (rec (f + 2))]) ∧ h[p]? = some (cI 8 g1) ∧ h[q]? = some (cI 8 g2) ∧ ∀ i, i < np → g1 i = rec (f + 3 + i) ∧ g2 i = rec (f + 11 + i)

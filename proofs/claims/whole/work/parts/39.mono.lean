/-! ===== squeeze and BLOW in plain numbers; they never get less by height or, squeeze, by weight ===== -/
theorem puN_ge (P U : Nat → Nat) (k x : Nat) : U k ≤ puN P U k x := Nat.le_add_right _ _
theorem puN_mono {P U : Nat → Nat} {k x y : Nat} (h : x ≤ y) : puN P U k x ≤ puN P U k y := by
  unfold puN
  exact Nat.add_le_add_left (Nat.div_le_div_right (Nat.mul_le_mul_left _ (by omega))) _
noncomputable def frN (rec : Nat → Int32) (f x : Nat) : Nat := puN (PR rec f) (UR rec f) (sgC (PR rec f) (npR rec f) x) x
theorem frN_is {rec : Nat → Int32} {f : Nat} (WF : WFc rec f) {x : Nat} (hx : x < cnR rec f) : frR rec f x = nI (frN rec f x) ∧ frN rec f x ≤ 60000 :=
  puR_nat WF (sgC_is (P := PR rec f) WF.2.1 (Nat.le_of_lt_succ hx))
theorem frN_mono {rec : Nat → Int32} {f : Nat} (WF : WFc rec f) {x y : Nat} (h : x ≤ y) (hy : y < cnR rec f) : frN rec f x ≤ frN rec f y := by
  have s1 := sgC_is (P := PR rec f) WF.2.1 (Nat.le_of_lt_succ (Nat.lt_of_le_of_lt h hy))
  have s2 := sgC_is (P := PR rec f) WF.2.1 (Nat.le_of_lt_succ hy)
  unfold frN
  generalize sgC (PR rec f) (npR rec f) x = a at s1 ⊢
  generalize sgC (PR rec f) (npR rec f) y = b at s2 ⊢
  have w6 := WF.2.2.2.2.2.1
  have w9 := WF.2.2.2.2.2.2.2.2.1
  obtain ⟨a1, a2, a3⟩ := s1
  obtain ⟨b1, b2, b3⟩ := s2
  rcases Nat.lt_trichotomy a b with q | q | q
  · have h1 := puN_le (P := PR rec f) (w9 a (by omega)) a2 (w6 a (by omega))
    have h2 := mono_U w9 (a := a + 1) (b := b) (by omega) (by omega)
    exact Nat.le_trans h1 (Nat.le_trans h2 (puN_ge _ _ b y))
  · subst q; exact puN_mono h
  · have := mono_P w6 (a := b + 1) (b := a) (by omega) (by omega)
    omega
noncomputable def cuN (rec : Nat → Int32) (f kn x : Nat) : Nat := frN rec f x * kn / 100
theorem cuN_is {rec : Nat → Int32} {f : Nat} (WF : WFc rec f) {kn x : Nat} (hk : kn ≤ 200) (hx : x < cnR rec f) : cuR rec f (nI kn) x = nI (cuN rec f kn x) ∧ cuN rec f kn x ≤ 120000 := by
  obtain ⟨h1, h2⟩ := frN_is WF hx
  have h3 : frN rec f x * kn ≤ 60000 * 200 := Nat.mul_le_mul h2 hk
  unfold cuR cuN
  refine ⟨?_, by omega⟩
  rw [h1, pk_mul, show (100 : Int32) = nI 100 from rfl, pk_div (by omega) (by omega) (by omega)]
theorem cuN_mono {rec : Nat → Int32} {f : Nat} (WF : WFc rec f) {kn x y : Nat} (h : x ≤ y) (hy : y < cnR rec f) : cuN rec f kn x ≤ cuN rec f kn y := Nat.div_le_div_right (Nat.mul_le_mul_right _ (frN_mono WF h hy))
noncomputable def stN (rec : Nat → Int32) (f kn : Nat) : Nat → Nat
  | 0 => 0
  | x + 1 => stN rec f kn x + cuN rec f kn x + cuN rec f kn (x + 1)
theorem stN_is {rec : Nat → Int32} {f : Nat} (WF : WFc rec f) {kn : Nat} (hk : kn ≤ 200) : ∀ {x : Nat}, x < cnR rec f → stR rec f (nI kn) x = lN (stN rec f kn x) ∧ stN rec f kn x ≤ x * 240000
  | 0, _ => ⟨rfl, Nat.zero_le _⟩
  | x + 1, hx => by
    obtain ⟨a1, a2⟩ := stN_is WF hk (x := x) (Nat.lt_of_succ_lt hx)
    obtain ⟨b1, b2⟩ := cuN_is WF hk (x := x) (Nat.lt_of_succ_lt hx)
    obtain ⟨c1, c2⟩ := cuN_is WF hk (x := x + 1) hx
    unfold stR at a1 ⊢
    unfold stoF stN
    refine ⟨?_, by omega⟩
    rw [a1, b1, c1, nI_l (by omega), nI_l (by omega), lN_add, lN_add]
/-- the least x, in plain numbers -/
def sqN (st : Nat → Nat) (w h T a : Nat) : Nat → Nat → Option Nat
  | _, 0 => none
  | x, m + 1 => if st x * a * T < 2 * w * (100 * h + x * T) then sqN st w h T a (x + 1) m else some x
theorem sqN_is {s1 : Nat → Int64} {s2 : Nat → Nat} {w h T a : Nat} (hw : w ≤ 200000) (hh : h ≤ 30000) (hT : T ≤ 600) (ha : a ≤ 2000) : ∀ (m x : Nat), x + m ≤ 96 → (∀ y, x ≤ y → y < x + m → s1 y = lN (s2 y) ∧ s2 y ≤ 30000000) → sqF s1 (lN w) (lN h) (lN T) (lN a) x m = (match sqN s2 w h T a x m with | none => -2 | some y => nI y)
  | 0, x, _, _ => rfl
  | m + 1, x, hx, e => by
    obtain ⟨e1, e2⟩ := e x (Nat.le_refl x) (by omega)
    have b1 : s2 x * a ≤ 30000000 * 2000 := Nat.mul_le_mul e2 ha
    have b2 : s2 x * a * T ≤ 30000000 * 2000 * 600 := Nat.mul_le_mul b1 hT
    have b3 : x * T ≤ 96 * 600 := Nat.mul_le_mul (by omega) hT
    have b4 : 2 * w * (100 * h + x * T) ≤ 2 * 200000 * (100 * 30000 + 96 * 600) := Nat.mul_le_mul (by omega) (by omega)
    have c : s1 x * lN a * lN T < 2 * lN w * (100 * lN h + (nI x).toInt64 * lN T) ↔ s2 x * a * T < 2 * w * (100 * h + x * T) := by
      rw [e1, nI_l (by omega), show (2 : Int64) = lN 2 from rfl, show (100 : Int64) = lN 100 from rfl, lN_mul, lN_mul, lN_mul, lN_mul, lN_mul, lN_add, lN_mul]
      exact pk_lLT (by omega) (by omega)
    unfold sqF sqN
    by_cases q : s2 x * a * T < 2 * w * (100 * h + x * T)
    · rw [if_pos (c.mpr q), if_pos q]
      exact sqN_is hw hh hT ha m (x + 1) (by omega) (fun y h1 h2 => e y (by omega) (by omega))
    · rw [if_neg (fun z => q (c.mp z)), if_neg q]
theorem sqN_mono {st : Nat → Nat} {w h w' h' T a : Nat} (hw : w ≤ w') (hh : h ≤ h') : ∀ (m x y : Nat), sqN st w' h' T a x m = some y → ∃ z, x ≤ z ∧ z ≤ y ∧ sqN st w h T a x m = some z
  | 0, x, y, q => by cases q
  | m + 1, x, y, q => by
    unfold sqN at q ⊢
    by_cases c : st x * a * T < 2 * w * (100 * h + x * T)
    · have c2 : st x * a * T < 2 * w' * (100 * h' + x * T) := Nat.lt_of_lt_of_le c (Nat.mul_le_mul (Nat.mul_le_mul_left 2 hw) (by omega))
      rw [if_pos c2] at q
      rw [if_pos c]
      obtain ⟨z, h1, h2, h3⟩ := sqN_mono hw hh m (x + 1) y q
      exact ⟨z, by omega, h2, h3⟩
    · rw [if_neg c]
      refine ⟨x, Nat.le_refl x, ?_, rfl⟩
      by_cases c2 : st x * a * T < 2 * w' * (100 * h' + x * T)
      · rw [if_pos c2] at q
        exact sqN_ge m (x + 1) y q |> fun z => by omega
      · rw [if_neg c2] at q
        cases q; exact Nat.le_refl x
where
  sqN_ge {st : Nat → Nat} {w h T a : Nat} : ∀ (m x y : Nat), sqN st w h T a x m = some y → x ≤ y
    | 0, x, y, q => by cases q
    | m + 1, x, y, q => by
      unfold sqN at q
      split at q
      · have := sqN_ge m (x + 1) y q; omega
      · cases q; exact Nat.le_refl x
theorem sqN_lt {st : Nat → Nat} {w h T a : Nat} : ∀ (m x y : Nat), sqN st w h T a x m = some y → y < x + m
  | 0, x, y, q => by cases q
  | m + 1, x, y, q => by
    unfold sqN at q
    split at q
    · have := sqN_lt m (x + 1) y q; omega
    · cases q; omega
/-- BLOW in plain numbers -/
def blN (v a w : Nat) : Nat := if v * a * 10 / w ≤ 2000000000 then v * a * 10 / w else 2000000000
theorem blN_mono {v v' a w : Nat} (h : v ≤ v') : blN v a w ≤ blN v' a w := by
  have h1 : v * a * 10 / w ≤ v' * a * 10 / w := Nat.div_le_div_right (Nat.mul_le_mul_right _ (Nat.mul_le_mul_right _ h))
  unfold blN
  split <;> split <;> omega
theorem blN_le (v a w : Nat) : blN v a w ≤ 2000000000 := by unfold blN; split <;> omega

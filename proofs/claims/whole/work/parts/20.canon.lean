/-! ===== one name for each number of a record ===== -/
abbrev npR (rec : Nat → Int32) (f : Nat) : Nat := (rec f).toNatClampNeg
abbrev PR (rec : Nat → Int32) (f : Nat) : Nat → Nat := fun i => (rec (f + 3 + i)).toNatClampNeg
abbrev UR (rec : Nat → Int32) (f : Nat) : Nat → Nat := fun i => (rec (f + 11 + i)).toNatClampNeg
abbrev WFc (rec : Nat → Int32) (f : Nat) : Prop := WFf rec f (npR rec f) (PR rec f) (UR rec f) (rec (f + 1)).toNatClampNeg (rec (f + 2)).toNatClampNeg
theorem WFf.canon {rec : Nat → Int32} {f np : Nat} {P U : Nat → Nat} {ke pr : Nat} (WF : WFf rec f np P U ke pr) : WFc rec f := by
  obtain ⟨W1, W2, W3, W4, W5, W6, W7, W8, W9, W10, W11, W12, W13, W14⟩ := id WF
  have e1 : npR rec f = np := by show (rec f).toNatClampNeg = np; rw [W1, nI_clamp (by omega)]
  have e2 : ∀ i, i < np → PR rec f i = P i := fun i hi => by
    have := WF.P_le hi
    show (rec (f + 3 + i)).toNatClampNeg = P i
    rw [W4 i hi, nI_clamp (by omega)]
  have e3 : ∀ i, i < np → UR rec f i = U i := fun i hi => by
    have := WF.U_le hi
    show (rec (f + 11 + i)).toNatClampNeg = U i
    rw [W8 i hi, nI_clamp (by omega)]
  have e4 : (rec (f + 1)).toNatClampNeg = ke := by rw [W11, nI_clamp (by omega)]
  have e5 : (rec (f + 2)).toNatClampNeg = pr := by rw [W13, nI_clamp (by omega)]
  unfold WFc
  rw [e1, e4, e5]
  exact ⟨W1, W2, W3, fun i hi => by rw [e2 i hi]; exact W4 i hi, by rw [e2 0 (by omega)]; exact W5, fun i hi => by rw [e2 i (by omega), e2 (i + 1) hi]; exact W6 i hi, by rw [e2 _ (by omega)]; exact W7, fun i hi => by rw [e3 i hi]; exact W8 i hi, fun i hi => by rw [e3 i (by omega), e3 (i + 1) hi]; exact W9 i hi, by rw [e3 _ (by omega)]; exact W10, W11, W12, W13, W14⟩
/-- the stretch of x -/
noncomputable def sgC (P : Nat → Nat) (np x : Nat) : Nat := Classical.epsilon (fun k => IsSeg P np x k)
theorem sgC_eq {P : Nat → Nat} {np x k : Nat} (h : ∀ i, i + 1 < np → P i < P (i + 1)) (hk : IsSeg P np x k) : sgC P np x = k := IsSeg.one h (Classical.epsilon_spec (p := fun k => IsSeg P np x k) ⟨k, hk⟩) hk
theorem sgC_is {P : Nat → Nat} {np x : Nat} (h2 : 2 ≤ np) (hx : x ≤ P (np - 1)) : IsSeg P np x (sgC P np x) := by
  apply Classical.epsilon_spec (p := fun k => IsSeg P np x k)
  obtain ⟨k, hk, hm⟩ := pk_least (fun k => k + 2 ≤ np ∧ x ≤ P (k + 1)) ⟨np - 2, by omega, by rw [show np - 2 + 1 = np - 1 by omega]; exact hx⟩
  refine ⟨k, hk.1, hk.2, ?_⟩
  by_cases e : k = 0
  · exact Or.inl e
  · refine Or.inr (Nat.not_le.mp fun q => hm (k - 1) (by omega) ⟨by omega, ?_⟩)
    rw [show k - 1 + 1 = k by omega]
    exact q
/-- how many whole percents a FOAM has -/
abbrev cnR (rec : Nat → Int32) (f : Nat) : Nat := PR rec f (npR rec f - 1) + 1
noncomputable def frR (rec : Nat → Int32) (f x : Nat) : Int32 := puR rec f (sgC (PR rec f) (npR rec f) x) x
noncomputable def cuR (rec : Nat → Int32) (f : Nat) (kept : Int32) (x : Nat) : Int32 := frR rec f x * kept / 100
noncomputable def stR (rec : Nat → Int32) (f : Nat) (kept : Int32) : Nat → Int64 := stoF (cuR rec f kept)
/-- the FOAM of a PAD: none, or its number -/
def pdF (rec : Nat → Int32) (t sd : Nat) : Option Nat := if rec (t + 5 + 3 * sd) = 0 then none else some ((rec (t + 5 + 3 * sd)).toNatClampNeg - 1)
abbrev thR (rec : Nat → Int32) (t sd : Nat) : Int64 := (rec (t + 5 + 3 * sd + 1)).toInt64
abbrev arR (rec : Nat → Int32) (t sd : Nat) : Int64 := (rec (t + 5 + 3 * sd + 2)).toInt64
/-- squeeze, BLOW (-2: to the END), HOLDS of a THING at t on a side, the foam worn to kept -/
noncomputable def SQ (rec : Nat → Int32) (t sd : Nat) (kept w h : Int32) : Int32 := match pdF rec t sd with
  | none => -2
  | some k => sqF (stR rec (4 + 20 * k) kept) w.toInt64 h.toInt64 (thR rec t sd) (arR rec t sd) 0 (cnR rec (4 + 20 * k))
noncomputable def BL (rec : Nat → Int32) (t sd : Nat) (kept w h : Int32) : Int32 := match pdF rec t sd with
  | none => -2
  | some k => blO (stR rec (4 + 20 * k) kept) (cuR rec (4 + 20 * k) kept) (cnR rec (4 + 20 * k)) (thR rec t sd) (arR rec t sd) w h
noncomputable def HO (rec : Nat → Int32) (t sd : Nat) (kept w h mark : Int32) : Bool := match pdF rec t sd with
  | none => false
  | some k => hoF (stR rec (4 + 20 * k) kept) (cuR rec (4 + 20 * k) kept) (cnR rec (4 + 20 * k)) (thR rec t sd) (arR rec t sd) w h mark
theorem sqF_cong {s1 s2 : Nat → Int64} {w h thick area : Int64} : ∀ (m k : Nat), (∀ x, k ≤ x → x < k + m → s1 x = s2 x) → sqF s1 w h thick area k m = sqF s2 w h thick area k m
  | 0, k, _ => rfl
  | m + 1, k, e => by
    unfold sqF
    rw [e k (Nat.le_refl k) (by omega), sqF_cong m (k + 1) (fun x h1 h2 => e x (by omega) (by omega))]
theorem sqF_in {s : Nat → Int64} {w h thick area : Int64} {c : Nat} (hn : ¬ sqF s w h thick area 0 c < 0) (hc : c < 2 ^ 31) : (sqF s w h thick area 0 c).toNatClampNeg < c := by
  rcases sqF_cases s w h thick area c 0 with e | ⟨x, -, h2, e⟩
  · rw [e] at hn; exact absurd (by decide) hn
  · rw [e, nI_clamp (by omega)]; omega
theorem blO_cong {s1 s2 : Nat → Int64} {c1 c2 : Nat → Int32} {c : Nat} {thick area : Int64} {w h : Int32} (hc : c < 2 ^ 31) (e : ∀ x, x < c → s1 x = s2 x) (e2 : ∀ x, x < c → c1 x = c2 x) : blO s1 c1 c thick area w h = blO s2 c2 c thick area w h := by
  unfold blO
  rw [sqF_cong c 0 (fun x _ hx => e x (by omega))]
  by_cases q : sqF s2 w.toInt64 h.toInt64 thick area 0 c < 0
  · rw [if_pos q, if_pos q]
  · rw [if_neg q, if_neg q, e2 _ (sqF_in q hc)]
theorem hoF_cong {s1 s2 : Nat → Int64} {c1 c2 : Nat → Int32} {c : Nat} {thick area : Int64} {w h mark : Int32} (hc : c < 2 ^ 31) (e : ∀ x, x < c → s1 x = s2 x) (e2 : ∀ x, x < c → c1 x = c2 x) : hoF s1 c1 c thick area w h mark = hoF s2 c2 c thick area w h mark := by
  unfold hoF
  rw [sqF_cong c 0 (fun x _ hx => e x (by omega))]
  by_cases q : sqF s2 w.toInt64 h.toInt64 thick area 0 c < 0
  · rw [if_pos q, if_pos q]
  · rw [if_neg q, if_neg q, e2 _ (sqF_in q hc)]
theorem cu_canon {rec : Nat → Int32} {f : Nat} (WF : WFc rec f) {kept : Int32} {c : Nat} {cu : Nat → Int32} (h : IsCu rec f (npR rec f) (PR rec f) kept c cu) : ∀ x, x < c → cu x = cuR rec f kept x := fun x hx => by
  obtain ⟨k, h1, h2⟩ := h x hx
  rw [h2, cuR, frR, sgC_eq WF.2.2.2.2.2.1 h1]
theorem fr_canon {rec : Nat → Int32} {f : Nat} (WF : WFc rec f) {c : Nat} {fr : Nat → Int32} (h : ∀ x, x < c → ∃ k, IsSeg (PR rec f) (npR rec f) x k ∧ fr x = puR rec f k x) : ∀ x, x < c → fr x = frR rec f x := fun x hx => by
  obtain ⟨k, h1, h2⟩ := h x hx
  rw [h2, frR, sgC_eq WF.2.2.2.2.2.1 h1]
theorem cnR_le {rec : Nat → Int32} {f : Nat} (WF : WFc rec f) : cnR rec f ≤ 96 := by
  have := WF.2.2.2.2.2.2.1
  show PR rec f (npR rec f - 1) + 1 ≤ 96
  omega
/-- PUSH in plain numbers, and its worn one -/
theorem frR_nat {rec : Nat → Int32} {f : Nat} (WF : WFc rec f) {x : Nat} (hx : x < cnR rec f) : ∃ v, frR rec f x = nI v ∧ v ≤ 60000 := by
  have h1 := sgC_is (P := PR rec f) WF.2.1 (Nat.le_of_lt_succ hx)
  exact ⟨_, (puR_nat WF h1).1, (puR_nat WF h1).2⟩
theorem cuR_nat {rec : Nat → Int32} {f : Nat} (WF : WFc rec f) {x kn : Nat} (hx : x < cnR rec f) (hk : kn ≤ 200) : ∃ v, cuR rec f (nI kn) x = nI v ∧ v ≤ 120000 := by
  obtain ⟨v, h1, h2⟩ := frR_nat WF hx
  have h3 : v * kn ≤ 60000 * 200 := Nat.mul_le_mul h2 hk
  refine ⟨v * kn / 100, ?_, by omega⟩
  unfold cuR
  rw [h1, pk_mul, show (100 : Int32) = nI 100 from rfl, pk_div (by omega) (by omega) (by omega)]

theorem blF_nat {v a w : Nat} (hv : v ≤ 120000) (ha : a ≤ 2000) (hw : 1 ≤ w) (hw2 : w < 2 ^ 31) : blF (nI v) (lN a) (lN w) = nI (if v * a * 10 / w ≤ 2000000000 then v * a * 10 / w else 2000000000) := by
  have h1 : v * a ≤ 120000 * 2000 := Nat.mul_le_mul hv ha
  unfold blF
  rw [nI_l (by omega), lN_mul, show (10 : Int64) = lN 10 from rfl, lN_mul, pk_lDiv (by omega) (by omega) (by omega), show (2000000000 : Int64) = lN 2000000000 from rfl]
  have h2 : v * a * 10 / w ≤ v * a * 10 := Nat.div_le_self _ _
  by_cases q : v * a * 10 / w ≤ 2000000000
  · rw [if_pos ((pk_lLE (by omega) (by omega)).mpr q), if_pos q, lN_i]
  · rw [if_neg (fun z => q ((pk_lLE (by omega) (by omega)).mp z)), if_neg q]
    rfl
theorem nI_ne_m2 {n : Nat} (h : n < 2 ^ 31) : ¬ nI n = -2 := by
  intro q
  have := congrArg Int32.toInt q
  rw [nI_toInt h] at this
  have h1 : (-2 : Int32).toInt = -2 := rfl
  omega
/-- the class's 'holds' is the model's -/
theorem ho_blO {sto : Nat → Int64} {cu : Nat → Int32} {c : Nat} {thick : Int64} {a wn : Nat} {h mk : Int32} (hc : c < 2 ^ 31) (hcu : ∀ x, x < c → ∃ v, cu x = nI v ∧ v ≤ 120000) (ha : a ≤ 2000) (hw : 1 ≤ wn) (hw2 : wn < 2 ^ 31) : (blO sto cu c thick (lN a) (nI wn) h = -2 ∨ mk < blO sto cu c thick (lN a) (nI wn) h) ↔ hoF sto cu c thick (lN a) (nI wn) h mk = false := by
  unfold blO hoF
  by_cases q : sqF sto (nI wn).toInt64 h.toInt64 thick (lN a) 0 c < 0
  · simp [q]
  · rw [if_neg q, if_neg q]
    obtain ⟨v, e, hv⟩ := hcu _ (sqF_in q hc)
    rw [e, nI_l hw2, blF_nat hv ha hw hw2]
    have : ¬ nI (if v * a * 10 / wn ≤ 2000000000 then v * a * 10 / wn else 2000000000) = -2 := nI_ne_m2 (by split <;> omega)
    simp [this]
theorem blO_nonneg {sto : Nat → Int64} {cu : Nat → Int32} {c : Nat} {thick : Int64} {a wn : Nat} {h : Int32} (hc : c < 2 ^ 31) (hcu : ∀ x, x < c → ∃ v, cu x = nI v ∧ v ≤ 120000) (ha : a ≤ 2000) (hw : 1 ≤ wn) (hw2 : wn < 2 ^ 31) (q : ¬ sqF sto (nI wn).toInt64 h.toInt64 thick (lN a) 0 c < 0) : ∃ n, n ≤ 2000000000 ∧ blO sto cu c thick (lN a) (nI wn) h = nI n := by
  unfold blO
  rw [if_neg q]
  obtain ⟨v, e, hv⟩ := hcu _ (sqF_in q hc)
  rw [e, nI_l hw2, blF_nat hv ha hw hw2]
  exact ⟨_, by split <;> omega, rfl⟩

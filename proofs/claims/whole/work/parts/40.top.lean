/-! ===== the first height that fails; BLOWS in plain numbers ===== -/
def fsF (p : Nat → Bool) : Nat → Nat → Nat
  | k, 0 => k
  | k, m + 1 => if p k then fsF p (k + 1) m else k
theorem fsF_bd (p : Nat → Bool) : ∀ (m k : Nat), k ≤ fsF p k m ∧ fsF p k m ≤ k + m ∧ (∀ j, k ≤ j → j < fsF p k m → p j = true) ∧ (fsF p k m = k + m ∨ p (fsF p k m) = false)
  | 0, k => ⟨Nat.le_refl k, Nat.le_refl k, fun j h1 h2 => absurd h2 (by unfold fsF; omega), Or.inl rfl⟩
  | m + 1, k => by
    unfold fsF
    by_cases q : p k = true
    · rw [if_pos q]
      obtain ⟨a, b, c, d⟩ := fsF_bd p m (k + 1)
      refine ⟨by omega, by omega, fun j h1 h2 => ?_, ?_⟩
      · by_cases e : j = k
        · rw [e]; exact q
        · exact c j (by omega) h2
      · rcases d with d | d
        · exact Or.inl (by omega)
        · exact Or.inr d
    · rw [if_neg q]
      exact ⟨Nat.le_refl k, by omega, fun j h1 h2 => absurd h2 (by omega), Or.inr (by simpa using q)⟩
def topF (p : Nat → Bool) : Nat := fsF p 0 30001
theorem topF_le (p : Nat → Bool) : topF p ≤ 30001 := by have := (fsF_bd p 30001 0).2.1; unfold topF; omega
theorem topF_in {p : Nat → Bool} {j : Nat} (h : j < topF p) : p j = true := (fsF_bd p 30001 0).2.2.1 j (Nat.zero_le j) h
theorem topF_out {p : Nat → Bool} (h : topF p ≤ 30000) : p (topF p) = false := by
  rcases (fsF_bd p 30001 0).2.2.2 with e | e
  · unfold topF at h; omega
  · exact e
/-- what holds at a height holds at every lesser one -/
abbrev Dn (p : Nat → Bool) : Prop := ∀ a b, a ≤ b → b ≤ 30000 → p b = true → p a = true
theorem topF_lt {p : Nat → Bool} (hd : Dn p) {j : Nat} (hj : j ≤ 30000) : j < topF p ↔ p j = true := by
  constructor
  · exact topF_in
  · intro h
    apply Nat.lt_of_not_le
    intro q
    have h1 := hd _ _ q hj h
    rw [topF_out (p := p) (by omega)] at h1
    cases h1
theorem topF_le_of {p : Nat → Bool} (hd : Dn p) {j : Nat} (hj : j ≤ 30000) (h : p j = false) : topF p ≤ j := Nat.le_of_not_lt (fun q => by rw [(topF_lt hd hj).mp q] at h; cases h)
theorem topF_sub {p q : Nat → Bool} (h : ∀ j, j ≤ 30000 → p j = true → q j = true) : topF p ≤ topF q := by
  apply Nat.le_of_not_lt
  intro z
  have h1 := topF_le p
  have h2 := h _ (by omega) (topF_in z)
  rw [topF_out (p := q) (by omega)] at h2
  cases h2
theorem topF_0 {p : Nat → Bool} (h : p 0 = false) : topF p = 0 := by
  unfold topF fsF
  rw [h]; rfl
theorem topF_cong {p q : Nat → Bool} (h : ∀ j, j ≤ 30000 → p j = q j) : topF p = topF q := Nat.le_antisymm (topF_sub fun j hj e => by rw [← h j hj]; exact e) (topF_sub fun j hj e => by rw [h j hj]; exact e)
theorem lcI_add {a b : Nat} (h : 1 ≤ a + b) : lcI a + nI b = nI (a + b - 1) := by
  have e : nI (a + b - 1) = nI (a + b) - nI 1 := (pk_sub h).symm
  rw [e, ← nI_add]
  unfold lcI
  show nI a - nI 1 + nI b = nI a + nI b - nI 1
  rw [Int32.sub_eq_add_neg, Int32.sub_eq_add_neg, Int32.add_assoc, Int32.add_comm (-nI 1), Int32.add_assoc]
theorem lcI_sub {a b : Nat} (h : a ≤ b + 1) : nI b - lcI a = nI (b + 1 - a) := by
  rw [← pk_sub h]
  unfold lcI
  show nI b - (nI a - nI 1) = nI (b + 1) - nI a
  rw [← nI_add, Int32.sub_eq_add_neg, Int32.neg_sub, Int32.sub_eq_add_neg, Int32.sub_eq_add_neg, Int32.add_assoc]
theorem lcI_pos {a : Nat} (h : 1 ≤ a) : lcI a = nI (a - 1) := by
  unfold lcI
  show nI a - nI 1 = _
  rw [pk_sub h]
/-- BLOW: none at the END -/
noncomputable def bN (rec : Nat → Int32) (t sd kn wn h : Nat) : Option Nat := match pdF rec t sd with
  | none => none
  | some k => (sqN (stN rec (4 + 20 * k) kn) wn h (rec (t + 5 + 3 * sd + 1)).toNatClampNeg (rec (t + 5 + 3 * sd + 2)).toNatClampNeg 0 (cnR rec (4 + 20 * k))).map (fun x => blN (cuN rec (4 + 20 * k) kn x) (rec (t + 5 + 3 * sd + 2)).toNatClampNeg wn)
theorem bN_le {rec : Nat → Int32} {t sd kn wn h v : Nat} (e : bN rec t sd kn wn h = some v) : v ≤ 2000000000 := by
  unfold bN at e
  cases q : pdF rec t sd with
  | none => rw [q] at e; cases e
  | some k =>
    rw [q] at e
    obtain ⟨x, -, hx⟩ := Option.map_eq_some_iff.mp e
    rw [← hx]
    exact blN_le _ _ _
theorem bN_mono {rec : Nat → Int32} {c : Nat × Nat × Nat × Nat} {k sd kn wn h h' v : Nat} (W : WFk rec c) (hk : k < c.2.1) (hs : sd < 6) (hh : h ≤ h') (e : bN rec (164 + 24 * k) sd kn wn h' = some v) : ∃ u, u ≤ v ∧ bN rec (164 + 24 * k) sd kn wn h = some u := by
  unfold bN at e ⊢
  rcases pd_wf (W.2.2.2.2.2.2.2.2.2.1 k hk) W.2.1 hs with ⟨q, -⟩ | ⟨kf, q, hkf, -⟩
  · rw [q] at e; cases e
  · rw [q] at e ⊢
    dsimp only at e ⊢
    obtain ⟨np, P, U, ke, pr, w⟩ := W.2.2.2.2.2.2.2.2.1 kf hkf
    obtain ⟨x, h1, h2⟩ := Option.map_eq_some_iff.mp e
    obtain ⟨z, -, hz, h3⟩ := sqN_mono (Nat.le_refl wn) hh _ _ _ h1
    have h4 := sqN_lt _ _ _ h1
    rw [h3]
    refine ⟨_, ?_, rfl⟩
    rw [← h2]
    exact blN_mono (cuN_mono w.canon hz (by omega))
/-- the PAD's thick and area in plain numbers -/
theorem pad_nat2 {rec : Nat → Int32} {c : Nat × Nat × Nat × Nat} {k sd kf : Nat} (W : WFk rec c) (hk : k < c.2.1) (hs : sd < 6) (q : pdF rec (164 + 24 * k) sd = some kf) : ∃ T a, T = (rec (164 + 24 * k + 5 + 3 * sd + 1)).toNatClampNeg ∧ a = (rec (164 + 24 * k + 5 + 3 * sd + 2)).toNatClampNeg ∧ T ≤ 600 ∧ a ≤ 2000 ∧ thR rec (164 + 24 * k) sd = lN T ∧ arR rec (164 + 24 * k) sd = lN a := by
  rcases (W.2.2.2.2.2.2.2.2.2.1 k hk).2.2.2 sd hs with e0 | ⟨kf', hkf, e0, ⟨z, hz, hz1, hz2⟩, y, hy, hy1, hy2⟩
  · unfold pdF at q; rw [if_pos e0] at q; cases q
  · refine ⟨z, y, ?_, ?_, hz2, hy2, ?_, ?_⟩
    · rw [hz, nI_clamp (by omega)]
    · rw [hy, nI_clamp (by omega)]
    · show (rec _).toInt64 = _
      rw [hz, nI_l (by omega)]
    · show (rec _).toInt64 = _
      rw [hy, nI_l (by omega)]
theorem SQ_sqN {rec : Nat → Int32} {c : Nat × Nat × Nat × Nat} {k sd kf kn wn h T a x m : Nat} (W : WFk rec c) (hkf : kf < c.1) (hT : T ≤ 600) (ha : a ≤ 2000) (hkn : kn ≤ 200) (hw2 : wn ≤ 200000) (hh : h ≤ 30000) (hm : x + m ≤ cnR rec (4 + 20 * kf)) : sqF (stR rec (4 + 20 * kf) (nI kn)) (nI wn).toInt64 (nI h).toInt64 (lN T) (lN a) x m = (match sqN (stN rec (4 + 20 * kf) kn) wn h T a x m with | none => -2 | some y => nI y) := by
  obtain ⟨np, P, U, ke, pr, w⟩ := W.2.2.2.2.2.2.2.2.1 kf hkf
  have w := w.canon
  have hc := cnR_le w
  rw [nI_l (by omega), nI_l (by omega)]
  refine sqN_is hw2 hh hT ha _ _ (by omega) (fun y h1 h2 => ?_)
  obtain ⟨e1, e2⟩ := stN_is w hkn (x := y) (by omega)
  exact ⟨e1, by omega⟩
theorem BL_bN {rec : Nat → Int32} {c : Nat × Nat × Nat × Nat} {k sd kn wn h : Nat} (W : WFk rec c) (hk : k < c.2.1) (hs : sd < 6) (hkn : kn ≤ 200) (hw : 1 ≤ wn) (hw2 : wn ≤ 200000) (hh : h ≤ 30000) : BL rec (164 + 24 * k) sd (nI kn) (nI wn) (nI h) = (match bN rec (164 + 24 * k) sd kn wn h with | none => -2 | some v => nI v) := by
  unfold BL bN
  rcases pd_wf (W.2.2.2.2.2.2.2.2.2.1 k hk) W.2.1 hs with ⟨q, -⟩ | ⟨kf, q, hkf, -⟩
  · rw [q]
  · obtain ⟨T, a, eT, ea, hT, ha, e1, e2⟩ := pad_nat2 W hk hs q
    rw [q]
    dsimp only
    rw [e1, e2, ← eT, ← ea]
    obtain ⟨np, P, U, ke, pr, w⟩ := W.2.2.2.2.2.2.2.2.1 kf hkf
    have w := w.canon
    have hc := cnR_le w
    unfold blO
    rw [SQ_sqN (k := k) (sd := sd) W hkf hT ha hkn hw2 hh (by omega)]
    cases q2 : sqN (stN rec (4 + 20 * kf) kn) wn h T a 0 (cnR rec (4 + 20 * kf)) with
    | none => rw [if_pos (by decide)]; rfl
    | some x =>
      have := sqN_lt _ _ _ q2
      dsimp only
      rw [if_neg (nI_pos (by omega)), nI_clamp (by omega), (cuN_is w hkn (x := x) (by omega)).1, nI_l (by omega), blF_nat (cuN_is w hkn (x := x) (by omega)).2 ha hw (by omega)]
      rfl
/-- a BLOW of at most m, not to the END -/
noncomputable def WI (rec : Nat → Int32) (t sd kn wn : Nat) (m : Int) (h : Nat) : Bool := match bN rec t sd kn wn h with
  | none => false
  | some v => decide ((v : Int) ≤ m)
theorem WI_dn {rec : Nat → Int32} {c : Nat × Nat × Nat × Nat} {k sd kn wn : Nat} {m : Int} (W : WFk rec c) (hk : k < c.2.1) (hs : sd < 6) : Dn (WI rec (164 + 24 * k) sd kn wn m) := by
  intro a b hab _ h
  unfold WI at h ⊢
  cases e : bN rec (164 + 24 * k) sd kn wn b with
  | none => rw [e] at h; cases h
  | some v =>
    rw [e] at h
    obtain ⟨u, hu, e2⟩ := bN_mono W hk hs hab e
    rw [e2]
    have h := of_decide_eq_true h
    exact decide_eq_true (by omega)
theorem m2_toInt : (-2 : Int32).toInt = -2 := rfl
theorem WI_BL {rec : Nat → Int32} {c : Nat × Nat × Nat × Nat} {k sd kn wn h : Nat} {ms : Int64} (W : WFk rec c) (hk : k < c.2.1) (hs : sd < 6) (hkn : kn ≤ 200) (hw : 1 ≤ wn) (hw2 : wn ≤ 200000) (hh : h ≤ 30000) : (BL rec (164 + 24 * k) sd (nI kn) (nI wn) (nI h) = -2 ∨ ms < (BL rec (164 + 24 * k) sd (nI kn) (nI wn) (nI h)).toInt64) ↔ WI rec (164 + 24 * k) sd kn wn ms.toInt h = false := by
  rw [BL_bN W hk hs hkn hw hw2 hh]
  unfold WI
  cases e : bN rec (164 + 24 * k) sd kn wn h with
  | none => simp
  | some v =>
    have hv := bN_le e
    dsimp only
    rw [Int64.lt_iff_toInt_lt, nI_l (by omega), lN_toInt (by omega)]
    simp [nI_ne_m2 (show v < 2 ^ 31 by omega)]
theorem WI_BL2 {rec : Nat → Int32} {c : Nat × Nat × Nat × Nat} {k sd kn wn h : Nat} {mk : Int32} (W : WFk rec c) (hk : k < c.2.1) (hs : sd < 6) (hkn : kn ≤ 200) (hw : 1 ≤ wn) (hw2 : wn ≤ 200000) (hh : h ≤ 30000) : (BL rec (164 + 24 * k) sd (nI kn) (nI wn) (nI h) = -2 ∨ mk < BL rec (164 + 24 * k) sd (nI kn) (nI wn) (nI h)) ↔ WI rec (164 + 24 * k) sd kn wn mk.toInt h = false := by
  rw [BL_bN W hk hs hkn hw hw2 hh]
  unfold WI
  cases e : bN rec (164 + 24 * k) sd kn wn h with
  | none => simp
  | some v =>
    have hv := bN_le e
    dsimp only
    rw [Int32.lt_iff_toInt_lt, nI_toInt (by omega)]
    simp [nI_ne_m2 (show v < 2 ^ 31 by omega)]
theorem HO_WI {rec : Nat → Int32} {c : Nat × Nat × Nat × Nat} {k sd kn wn h : Nat} {mk : Int32} (W : WFk rec c) (hk : k < c.2.1) (hs : sd < 6) (hkn : kn ≤ 200) (hw : 1 ≤ wn) (hw2 : wn ≤ 200000) (hh : h ≤ 30000) : HO rec (164 + 24 * k) sd (nI kn) (nI wn) (nI h) mk = WI rec (164 + 24 * k) sd kn wn mk.toInt h := by
  have h1 := HO_BL (hh := nI h) (mk := mk) W hk hs hkn hw (show wn < 2 ^ 31 by omega)
  have h2 := WI_BL2 (mk := mk) W hk hs hkn hw hw2 hh
  rw [h2] at h1
  cases e : HO rec (164 + 24 * k) sd (nI kn) (nI wn) (nI h) mk <;> cases e2 : WI rec (164 + 24 * k) sd kn wn mk.toInt h <;> simp_all
/-- the step of the halved search -/
def stp : Nat → Nat
  | 0 => 0
  | j + 1 => 2 ^ j
theorem stp_half : ∀ j, stp (j + 1) / 2 = stp j
  | 0 => rfl
  | j + 1 => by show 2 ^ (j + 1) / 2 = 2 ^ j; rw [Nat.pow_succ]; omega
theorem stp_le {j : Nat} (h : j ≤ 15) : stp j ≤ 16384 := by
  cases j with
  | zero => decide
  | succ j => exact Nat.le_trans (Nat.pow_le_pow_right (by decide) (show j ≤ 14 by omega)) (by decide)
theorem stp_pos (j : Nat) : 0 < stp (j + 1) := Nat.pow_pos (by decide)
theorem stp_two (j : Nat) : 2 ^ (j + 1) = stp (j + 1) + 2 ^ j := by show 2 ^ (j + 1) = 2 ^ j + 2 ^ j; rw [Nat.pow_succ]; omega

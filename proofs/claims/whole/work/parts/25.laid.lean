theorem c_wearToL {G : GT} {h : List PE} {rec : Nat → Int32} {t sd : Nat} {kept : Int32} (L : Laid h rec t sd kept) (hp : pcN rec t sd ≤ 96) {kt : Int32} : CT G mX4_wearTo 0 0 [.ref 21, .int kt] h (fun o => o.1 = none ∧ Laid o.2 rec t sd kt ∧ Sm [21, 22, 23, 24] h o.2) := by
  obtain ⟨fr, pu, sv, q1, q2, q3, q4, e1, e2, e3⟩ := L
  refine (c_wearTo q1 q2 q3 q4 hp).weaken (fun o ho => ?_)
  obtain ⟨o1, pu2, sv2, o2, o3, o4, o5, o6, o7⟩ := ho
  exact ⟨o1, laid_of o2 (o5.at q2 (by decide)) o3 o4 e1 o6 o7, o5.wide (by intro y hy; simp at hy ⊢; omega)⟩
theorem c_wearByBlowL {G : GT} {h : List PE} {rec : Nat → Int32} {t sd : Nat} {kept : Int32} (L : Laid h rec t sd kept) (hp : pcN rec t sd ≤ 96) : CT G mX4_wearByBlow 1 22 [.ref 21] h (fun o => o.1 = none ∧ Laid o.2 rec t sd (kept * keP rec t sd / 100) ∧ Sm [21, 22, 23, 24] h o.2) := by
  obtain ⟨fr, pu, sv, q1, q2, q3, q4, e1, e2, e3⟩ := L
  refine (c_wearByBlow q1 q2 q3 q4 hp).weaken (fun o ho => ?_)
  obtain ⟨o1, pu2, sv2, o2, o3, o4, o5, o6, o7⟩ := ho
  exact ⟨o1, laid_of o2 (o5.at q2 (by decide)) o3 o4 e1 o6 o7, o5.wide (by intro y hy; simp at hy ⊢; omega)⟩
theorem c_squeezeOfL {G : GT} {h : List PE} {rec : Nat → Int32} {t sd : Nat} {kept : Int32} (L : Laid h rec t sd kept) (hp : pcN rec t sd ≤ 96) {wt hh : Int32} {x0 : Nat} (hx : x0 ≤ 96) : CT G mX4_squeezeOf 1 21 [.ref 21, .int wt, .int hh, .int (nI x0)] h (fun o => o = (some (.int (sqF (stP rec t sd kept) wt.toInt64 hh.toInt64 (thR rec t sd) (arR rec t sd) x0 (pcN rec t sd - x0))), h)) := by
  obtain ⟨fr, pu, sv, q1, q2, q3, q4, e1, e2, e3⟩ := L
  refine (c_squeezeOf q1 q4 hp hx).weaken (fun o ho => ?_)
  rw [ho, sqF_cong (pcN rec t sd - x0) x0 (fun x h1 h2 => e3 x (by omega))]
theorem c_blowOfL {G : GT} {h : List PE} {rec : Nat → Int32} {t sd : Nat} {kept : Int32} (L : Laid h rec t sd kept) (hp : pcN rec t sd ≤ 96) {wt hh : Int32} (hw : 1 ≤ wt) (hw0 : ¬ wt.toInt64 = 0) : CT G mX4_blowOf 2 45 [.ref 21, .int wt, .int hh] h (fun o => o = (some (.int (BL rec t sd kept wt hh)), h)) := by
  obtain ⟨fr, pu, sv, q1, q2, q3, q4, e1, e2, e3⟩ := L
  refine (c_blowOf q1 q3 q4 hp hw hw0).weaken (fun o ho => ?_)
  rw [ho, BL_P, blO_cong (by omega) e3 e2]
theorem c_blowAtL {G : GT} {h : List PE} {rec : Nat → Int32} {t sd : Nat} {kept : Int32} (L : Laid h rec t sd kept) (hp : pcN rec t sd ≤ 96) {wt : Int32} {x : Nat} (hx : x < pcN rec t sd) (hw : 1 ≤ wt) (hw0 : ¬ wt.toInt64 = 0) : CT G mX4_blowAt 1 23 [.ref 21, .int (nI x), .int wt] h (fun o => o = (some (.int (blF (cuP rec t sd kept x) (arR rec t sd) wt.toInt64)), h)) := by
  obtain ⟨fr, pu, sv, q1, q2, q3, q4, e1, e2, e3⟩ := L
  refine (c_blowAt2 q1 q3 hp hx hw hw0).weaken (fun o ho => ?_)
  rw [ho, e2 x hx]
theorem c_isWithinL {G : GT} {h : List PE} {rec : Nat → Int32} {t sd : Nat} {kept : Int32} (L : Laid h rec t sd kept) (hp : pcN rec t sd ≤ 96) {wt hh : Int32} {ms : Int64} (hw : 1 ≤ wt) (hw0 : ¬ wt.toInt64 = 0) : CT G mX4_isWithin 3 67 [.ref 21, .int wt, .int hh, .long ms] h (fun o => o = (some (.int (if BL rec t sd kept wt hh = -2 ∨ ms < (BL rec t sd kept wt hh).toInt64 then 0 else 1)), h)) := by
  obtain ⟨fr, pu, sv, q1, q2, q3, q4, e1, e2, e3⟩ := L
  refine (c_isWithin q1 q3 q4 hp hw hw0).weaken (fun o ho => ?_)
  rw [ho, BL_P, blO_cong (by omega) e3 e2]
theorem nI_one {w : Nat} (h : 1 ≤ w) (h2 : w < 2 ^ 31) : (1 : Int32) ≤ nI w ∧ ¬ (nI w).toInt64 = 0 := ⟨(nI_leI (a := 1) (by decide) h2).mpr h, by
  rw [nI_l h2]
  intro q
  exact absurd ((pk_lEQ (b := 0) (by omega) (by omega)).mp q) (by omega)⟩
/-- the PAD's pushes and area are plain numbers -/
theorem pad_nat {rec : Nat → Int32} {c : Nat × Nat × Nat × Nat} {k sd kn : Nat} (W : WFk rec c) (hk : k < c.2.1) (hs : sd < 6) (hkn : kn ≤ 200) : (∀ x, x < pcN rec (164 + 24 * k) sd → ∃ v, cuP rec (164 + 24 * k) sd (nI kn) x = nI v ∧ v ≤ 120000) ∧ (pdF rec (164 + 24 * k) sd ≠ none → ∃ a, a ≤ 2000 ∧ arR rec (164 + 24 * k) sd = lN a) := by
  have WT := W.2.2.2.2.2.2.2.2.2.1 k hk
  rcases WT.2.2.2 sd hs with e0 | ⟨kf, hkf, e0, -, z, hz, hz1, hz2⟩
  · have e : pdF rec (164 + 24 * k) sd = none := by unfold pdF; rw [if_pos e0]
    refine ⟨fun x hx => ?_, fun q => absurd e q⟩
    unfold pcN at hx
    rw [e] at hx
    exact absurd hx (Nat.not_lt_zero _)
  · have e : pdF rec (164 + 24 * k) sd = some kf := by
      unfold pdF
      have := W.2.1
      rw [if_neg (by rw [e0]; exact nI_ne0 (by omega) (by omega)), e0, nI_clamp (by omega)]
      rfl
    obtain ⟨np, P, U, ke, pr, w⟩ := W.2.2.2.2.2.2.2.2.1 kf hkf
    refine ⟨fun x hx => ?_, fun _ => ⟨z, hz2, by show (rec _).toInt64 = _; rw [hz, nI_l (by omega)]⟩⟩
    unfold pcN at hx
    unfold cuP
    rw [e] at hx ⊢
    exact cuR_nat w.canon hx hkn
theorem HO_BL {rec : Nat → Int32} {c : Nat × Nat × Nat × Nat} {k sd kn wn : Nat} {hh mk : Int32} (W : WFk rec c) (hk : k < c.2.1) (hs : sd < 6) (hkn : kn ≤ 200) (hw : 1 ≤ wn) (hw2 : wn < 2 ^ 31) : (BL rec (164 + 24 * k) sd (nI kn) (nI wn) hh = -2 ∨ mk < BL rec (164 + 24 * k) sd (nI kn) (nI wn) hh) ↔ HO rec (164 + 24 * k) sd (nI kn) (nI wn) hh mk = false := by
  have hp := pcN_le (sd := sd) W (W.2.2.2.2.2.2.2.2.2.1 k hk) hs
  obtain ⟨n1, n2⟩ := pad_nat W hk hs hkn
  by_cases e : pdF rec (164 + 24 * k) sd = none
  · unfold BL HO
    rw [e]
    simp
  · obtain ⟨a, ha, har⟩ := n2 e
    rw [BL_P, HO_P, har]
    exact ho_blO (by omega) n1 ha hw hw2

theorem c_holdsL {G : GT} {h : List PE} {rec : Nat → Int32} {c : Nat × Nat × Nat × Nat} {k sd kn : Nat} {hh : Int32} {ta : Nat} {fq : Nat → Nat} (L : Laid h rec (164 + 24 * k) sd (nI kn)) (hT : ThingAt h rec (164 + 24 * k) fq ta) (W : WFk rec c) (hk : k < c.2.1) (hs : sd < 6) (hkn : kn ≤ 200) : CT G mX4_holds 3 67 [.ref 21, .ref ta, .int hh] h (fun o => o = (some (.int (if HO rec (164 + 24 * k) sd (nI kn) (rec (164 + 24 * k)) hh (rec (164 + 24 * k + 4)) then 1 else 0)), h)) := by
  have hp := pcN_le (sd := sd) W (W.2.2.2.2.2.2.2.2.2.1 k hk) hs
  obtain ⟨fr, pu, sv, q1, q2, q3, q4, e1, e2, e3⟩ := L
  obtain ⟨hta, s1, s2, s3, s4, z1, z2, z3, z4, -, -, -, -, fta, -⟩ := hT
  obtain ⟨⟨wn, hw, hw1, hw2⟩, -⟩ := W.2.2.2.2.2.2.2.2.2.1 k hk
  have h1 := nI_one hw1 (by omega)
  rw [← hw] at h1
  refine (c_holds2 q1 q3 q4 fta (by omega) hp h1.1 h1.2).weaken (fun o ho => ?_)
  rw [ho, blO_cong (by omega) e3 e2, ← BL_P, hw]
  have h2 := HO_BL (hh := hh) (mk := rec (164 + 24 * k + 4)) W hk hs hkn hw1 (show wn < 2 ^ 31 by omega)
  cases e : HO rec (164 + 24 * k) sd (nI kn) (nI wn) hh (rec (164 + 24 * k + 4)) with
  | false => rw [if_pos (h2.mpr e)]; rfl
  | true => rw [if_neg (fun q => by rw [h2.mp q] at e; cases e)]; rfl

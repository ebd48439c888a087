/-! ===== pads ===== -/
def kdOk (nf : Nat) (tv : Nat → Nat) : Nat → Nat → Bool
  | 0, _ => true
  | m + 1, q => decide (tv (2 * q) < nf ∧ 1 ≤ tv (2 * q + 1) ∧ tv (2 * q + 1) ≤ 60) && kdOk nf tv m (q + 1)
theorem kdOk_at {nf : Nat} {tv : Nat → Nat} : ∀ (m q : Nat), kdOk nf tv m q = true → ∀ j, q ≤ j → j < q + m → tv (2 * j) < nf ∧ 1 ≤ tv (2 * j + 1) ∧ tv (2 * j + 1) ≤ 60
  | 0, q, _, j, h1, h2 => absurd h2 (by omega)
  | m + 1, q, h, j, h1, h2 => by
    unfold kdOk at h
    obtain ⟨a, b⟩ := Bool.and_eq_true_iff.mp h
    by_cases e : j = q
    · subst e; exact of_decide_eq_true a
    · exact kdOk_at m (q + 1) b j (by omega) (by omega)
abbrev kdsOk (nf tn : Nat) (tv : Nat → Nat) : Prop := 2 ≤ tn ∧ tn ≤ 20 ∧ tn % 2 = 0 ∧ kdOk nf tv (tn / 2) 0 = true
abbrev kFo (tv : Nat → Nat) (q : Nat) : Nat := 4 + 20 * tv (2 * q)
abbrev kTk (tv : Nat → Nat) (q : Nat) : Int32 := nI (10 * tv (2 * q + 1))
noncomputable def kHo (rec : Nat → Int32) (k : Nat) (ar hh : Int32) (tv : Nat → Nat) (q : Nat) : Bool := hoF (stR rec (kFo tv q) 100) (cuR rec (kFo tv q) 100) (cnR rec (kFo tv q)) (kTk tv q).toInt64 ar.toInt64 (rec (164 + 24 * k)) hh (rec (164 + 24 * k + 4))
def kCo (rec : Nat → Int32) (ar : Int32) (tv : Nat → Nat) (q : Nat) : Int32 := rec (kFo tv q + 2) * ar * kTk tv q / 1000
/-- one more pair of KINDS -/
def pjS (ho : Nat → Bool) (co tk : Nat → Int32) (free : Int32) (i j : Nat) (s : Int32 × Nat × Nat) : Int32 × Nat × Nat := if ho i = true ∧ ho j = true ∧ tk i + tk j ≤ free ∧ (s.1 = -1 ∨ co i + co j < s.1) then (co i + co j, i, j) else s
def pjJ (ho : Nat → Bool) (co tk : Nat → Int32) (free : Int32) (i : Nat) : Nat → Nat → Int32 × Nat × Nat → Int32 × Nat × Nat
  | 0, _, s => s
  | m + 1, j, s => pjJ ho co tk free i m (j + 1) (pjS ho co tk free i j s)
def pjI (ho : Nat → Bool) (co tk : Nat → Int32) (free : Int32) (K : Nat) : Nat → Nat → Int32 × Nat × Nat → Int32 × Nat × Nat
  | 0, _, s => s
  | m + 1, i, s => pjI ho co tk free K m (i + 1) (pjJ ho co tk free i K 0 s)
theorem kCo_ne {rec : Nat → Int32} {c : Nat × Nat × Nat × Nat} {tv : Nat → Nat} {an q : Nat} (W : WFk rec c) (ha : an ≤ 2000) (h1 : tv (2 * q) < c.1) (h2 : tv (2 * q + 1) ≤ 60) : ¬ kCo rec (nI an) tv q = -1 := by
  obtain ⟨np, P, U, ke, pr, w⟩ := W.2.2.2.2.2.2.2.2.1 _ h1
  obtain ⟨-, -, -, -, -, -, -, -, -, -, -, -, e, hp⟩ := w
  have b1 : pr * an ≤ 100 * 2000 := Nat.mul_le_mul hp ha
  have b2 : pr * an * (10 * tv (2 * q + 1)) ≤ 100 * 2000 * 600 := Nat.mul_le_mul b1 (by omega)
  unfold kCo
  rw [show rec (kFo tv q + 2) = nI pr from e, pk_mul, pk_mul, show (1000 : Int32) = nI 1000 from rfl, pk_div (by omega) (by omega) (by omega)]
  exact nI_ne_m1 (by omega)
theorem z4c {ho : Bool} {co z : Int32} (e : z = if ho = true then co else -1) (hc : ¬ co = -1) : (z = -1 → ¬ ho = true) ∧ (¬ z = -1 → ho = true ∧ z = co) := by
  by_cases q : ho = true
  · rw [if_pos q] at e
    exact ⟨fun z1 => absurd (e.symm.trans z1) hc, fun _ => ⟨q, e⟩⟩
  · rw [if_neg q] at e
    exact ⟨fun _ => q, fun z1 => absurd e z1⟩
/-- the row of chosen KINDS behind a search across the size ax -/
def PSt (z z2 : Nat → Int32) (ax : Nat) (s : Int32 × Nat × Nat) : Prop := (∀ j, j ≠ 2 * ax → j ≠ 2 * ax + 1 → z2 j = z j) ∧ (¬ s.1 = -1 → z2 (2 * ax) = nI s.2.1 ∧ z2 (2 * ax + 1) = nI s.2.2)
theorem PSt.upd {z z2 : Nat → Int32} {ax i j : Nat} {v : Int32} {s : Int32 × Nat × Nat} (h : PSt z z2 ax s) : PSt z (upd (upd z2 (2 * ax) (nI i)) (2 * ax + 1) (nI j)) ax (v, i, j) := by
  refine ⟨fun q h1 h2 => ?_, fun _ => ⟨?_, pk_us⟩⟩
  · rw [pk_un h2, pk_un h1]; exact h.1 q h1 h2
  · rw [pk_un (by omega), pk_us]

set_option maxRecDepth 100000 in
set_option maxHeartbeats 4000000 in
theorem l_pairJ {G : GT} {h0 : List PE} {K ax : Nat} {z2 z4 z5 : Nat → Int32} {ho : Nat → Bool} {co tk : Nat → Int32} {free : Int32} (hK : K ≤ 10) (hax : ax < 3) (e2 : ∀ q, q < K → z2 q = tk q) (e4 : ∀ q, q < K → (z4 q = if ho q = true then co q else -1) ∧ ¬ co q = -1) {i : Nat} (hi : i < K) {Q : OT → Prop} : ∀ (m j : Nat) (s : Int32 × Nat × Nat) (y5 : Nat → Int32) (h : List PE), K - j = m → j ≤ K → h[25]? = some (cO 7 [.ref 26, .ref 27, .ref 28, .ref 29, .ref 30, .ref 31, .int (nI K)]) → h[27]? = some (cI 10 z2) → h[29]? = some (cI 10 z4) → h[30]? = some (cI 6 y5) → Sm [30] h0 h → PSt z5 y5 ax s → (∀ (h : List PE) (y5 : Nat → Int32), h[25]? = some (cO 7 [.ref 26, .ref 27, .ref 28, .ref 29, .ref 30, .ref 31, .int (nI K)]) → h[27]? = some (cI 10 z2) → h[29]? = some (cI 10 z4) → h[30]? = some (cI 6 y5) → Sm [30] h0 h → PSt z5 y5 ax (pjJ ho co tk free i m j s) → X (NF G) G mX7_choosePair 0 0 138 [(4, .int (nI i)), (3, .int (pjJ ho co tk free i m j s).1), (0, .ref 25), (1, .int (nI ax)), (2, .int free)] [] h Q) → X (NF G) G mX7_choosePair 0 0 17 [(5, .int (nI j)), (4, .int (nI i)), (3, .int s.1), (0, .ref 25), (1, .int (nI ax)), (2, .int free)] [] h Q := by
  intro m
  induction m with
  | zero =>
    intro j s y5 h hm hj f25 f27 f29 f30 sm hP KX
    refine x_iload dX7_choosePair_17 0 rfl ?_
    refine x_aload_n dX7_choosePair_19 3 rfl ?_
    refine x_get (v := .int (nI K)) dX7_choosePair_20 fX7_30 f25 (by decide) rfl ?_
    refine x_icmp_geN (tgt := 138) (a := j) (b := K) (by omega) (by omega) dX7_choosePair_23 (by decide) (fun c_23 => ?_) (fun c_23 => absurd (by omega) c_23)
    refine x_perm [1, 2, 3, 4, 5] rfl ?_
    exact KX h y5 f25 f27 f29 f30 sm hP
  | succ m ih =>
    intro j s y5 h hm hj f25 f27 f29 f30 sm hP KX
    obtain ⟨a1, a2⟩ := z4c (e4 i hi).1 (e4 i hi).2
    obtain ⟨b1, b2⟩ := z4c (e4 j (by omega)).1 (e4 j (by omega)).2
    have t1 := e2 i hi
    have t2 := e2 j (by omega)
    refine x_iload dX7_choosePair_17 0 rfl ?_
    refine x_aload_n dX7_choosePair_19 3 rfl ?_
    refine x_get (v := .int (nI K)) dX7_choosePair_20 fX7_30 f25 (by decide) rfl ?_
    refine x_icmp_geN (tgt := 138) (a := j) (b := K) (by omega) (by omega) dX7_choosePair_23 (by decide) (fun c_23 => absurd c_23 (by omega)) (fun c_23 => ?_)
    refine x_aload_n dX7_choosePair_26 3 rfl ?_
    refine x_get (v := .ref 29) dX7_choosePair_27 fX7_21 f25 (by decide) rfl ?_
    refine x_iload dX7_choosePair_30 1 rfl ?_
    refine x_ialdN (i := i) dX7_choosePair_32 f29 (by decide) (by omega) (by decide) ?_
    refine x_iconst (v := (-1)) dX7_choosePair_33 (by decide) ?_
    refine x_icmp_eq (tgt := 132) dX7_choosePair_34 (by decide) (fun c_34 => ?_) (fun c_34 => ?_)
    · refine x_iincN (lv2 := [(5, .int (nI (j + 1))), (4, .int (nI i)), (3, .int s.1), (0, .ref 25), (1, .int (nI ax)), (2, .int free)]) dX7_choosePair_132 0 rfl (by decide) rfl ?_
      refine x_goto (tgt := 17) dX7_choosePair_135 (by decide) ?_
      refine x_perm [0, 1, 2, 3, 4, 5] rfl ?_
      have eS : pjS ho co tk free i j s = s := if_neg (fun q => a1 c_34 q.1)
      refine ih (j + 1) s y5 h (by omega) (by omega) f25 f27 f29 f30 sm hP ?_
      rw [pjJ, eS] at KX
      exact KX
    · refine x_aload_n dX7_choosePair_37 3 rfl ?_
      refine x_get (v := .ref 29) dX7_choosePair_38 fX7_21 f25 (by decide) rfl ?_
      refine x_iload dX7_choosePair_41 0 rfl ?_
      refine x_ialdN (i := j) dX7_choosePair_43 f29 (by decide) (by omega) (by decide) ?_
      refine x_iconst (v := (-1)) dX7_choosePair_44 (by decide) ?_
      refine x_icmp_eq (tgt := 132) dX7_choosePair_45 (by decide) (fun c_45 => ?_) (fun c_45 => ?_)
      · refine x_iincN (lv2 := [(5, .int (nI (j + 1))), (4, .int (nI i)), (3, .int s.1), (0, .ref 25), (1, .int (nI ax)), (2, .int free)]) dX7_choosePair_132 0 rfl (by decide) rfl ?_
        refine x_goto (tgt := 17) dX7_choosePair_135 (by decide) ?_
        refine x_perm [0, 1, 2, 3, 4, 5] rfl ?_
        have eS : pjS ho co tk free i j s = s := if_neg (fun q => b1 c_45 q.2.1)
        refine ih (j + 1) s y5 h (by omega) (by omega) f25 f27 f29 f30 sm hP ?_
        rw [pjJ, eS] at KX
        exact KX
      · refine x_aload_n dX7_choosePair_48 3 rfl ?_
        refine x_get (v := .ref 27) dX7_choosePair_49 fX7_15 f25 (by decide) rfl ?_
        refine x_iload dX7_choosePair_52 1 rfl ?_
        refine x_ialdN (i := i) dX7_choosePair_54 f27 (by decide) (by omega) (by decide) ?_
        refine x_aload_n dX7_choosePair_55 3 rfl ?_
        refine x_get (v := .ref 27) dX7_choosePair_56 fX7_15 f25 (by decide) rfl ?_
        refine x_iload dX7_choosePair_59 0 rfl ?_
        refine x_ialdN (i := j) dX7_choosePair_61 f27 (by decide) (by omega) (by decide) ?_
        refine x_iadd dX7_choosePair_62 ?_
        refine x_iload_n dX7_choosePair_63 5 rfl ?_
        refine x_icmp_le (tgt := 70) dX7_choosePair_64 (by decide) (fun c_64 => ?_) (fun c_64 => ?_)
        · refine x_iload_n dX7_choosePair_70 2 rfl ?_
          refine x_iconst (v := (-1)) dX7_choosePair_71 (by decide) ?_
          refine x_icmp_eq (tgt := 94) dX7_choosePair_72 (by decide) (fun c_72 => ?_) (fun c_72 => ?_)
          · refine x_aload_n dX7_choosePair_94 3 rfl ?_
            refine x_get (v := .ref 29) dX7_choosePair_95 fX7_21 f25 (by decide) rfl ?_
            refine x_iload dX7_choosePair_98 1 rfl ?_
            refine x_ialdN (i := i) dX7_choosePair_100 f29 (by decide) (by omega) (by decide) ?_
            refine x_aload_n dX7_choosePair_101 3 rfl ?_
            refine x_get (v := .ref 29) dX7_choosePair_102 fX7_21 f25 (by decide) rfl ?_
            refine x_iload dX7_choosePair_105 0 rfl ?_
            refine x_ialdN (i := j) dX7_choosePair_107 f29 (by decide) (by omega) (by decide) ?_
            refine x_iadd dX7_choosePair_108 ?_
            refine x_istore_n (lv2 := [(3, .int ((z4 i) + (z4 j))), (5, .int (nI j)), (4, .int (nI i)), (0, .ref 25), (1, .int (nI ax)), (2, .int free)]) dX7_choosePair_109 (by decide) rfl ?_
            refine x_aload_n dX7_choosePair_110 3 rfl ?_
            refine x_get (v := .ref 30) dX7_choosePair_111 fX7_24 f25 (by decide) rfl ?_
            refine x_iconst (v := 2) dX7_choosePair_114 (by decide) ?_
            refine x_iload_n dX7_choosePair_115 4 rfl ?_
            refine x_imulN (a := 2) (b := ax) dX7_choosePair_116 ?_
            refine x_iload dX7_choosePair_117 2 rfl ?_
            refine x_iastN (i := (2 * ax)) dX7_choosePair_119 f30 (by decide) (by omega) (by decide) (fun h101 a102 e103 l104 s105 => ?_)
            have f106 := (e103 25 (by decide)).trans f25
            have f107 := (e103 27 (by decide)).trans f27
            have f108 := (e103 29 (by decide)).trans f29
            have sm109 := Sm.put sm e103 l104 s105 (by decide)
            refine x_aload_n dX7_choosePair_120 3 rfl ?_
            refine x_get (v := .ref 30) dX7_choosePair_121 fX7_24 f106 (by decide) rfl ?_
            refine x_iconst (v := 2) dX7_choosePair_124 (by decide) ?_
            refine x_iload_n dX7_choosePair_125 4 rfl ?_
            refine x_imulN (a := 2) (b := ax) dX7_choosePair_126 ?_
            refine x_iconst (v := 1) dX7_choosePair_127 (by decide) ?_
            refine x_iaddN (a := (2 * ax)) (b := 1) dX7_choosePair_128 ?_
            refine x_iload dX7_choosePair_129 1 rfl ?_
            refine x_iastN (i := ((2 * ax) + 1)) dX7_choosePair_131 a102 (by decide) (by omega) (by decide) (fun h110 a111 e112 l113 s114 => ?_)
            have f115 := (e112 25 (by decide)).trans f106
            have f116 := (e112 27 (by decide)).trans f107
            have f117 := (e112 29 (by decide)).trans f108
            have sm118 := Sm.put sm109 e112 l113 s114 (by decide)
            refine x_iincN (lv2 := [(5, .int (nI (j + 1))), (3, .int ((z4 i) + (z4 j))), (4, .int (nI i)), (0, .ref 25), (1, .int (nI ax)), (2, .int free)]) dX7_choosePair_132 1 rfl (by decide) rfl ?_
            refine x_goto (tgt := 17) dX7_choosePair_135 (by decide) ?_
            refine x_perm [0, 2, 1, 3, 4, 5] rfl ?_
            have eS : pjS ho co tk free i j s = (co i + co j, i, j) := if_pos ⟨(a2 c_34).1, (b2 c_45).1, by rw [← t1, ← t2]; exact c_64, Or.inl c_72⟩
            rw [(a2 c_34).2, (b2 c_45).2]
            refine ih (j + 1) (co i + co j, i, j) _ h110 (by omega) (by omega) f115 f116 f117 a111 sm118 (PSt.upd hP) ?_
            rw [pjJ, eS] at KX
            exact KX
          · refine x_aload_n dX7_choosePair_75 3 rfl ?_
            refine x_get (v := .ref 29) dX7_choosePair_76 fX7_21 f25 (by decide) rfl ?_
            refine x_iload dX7_choosePair_79 1 rfl ?_
            refine x_ialdN (i := i) dX7_choosePair_81 f29 (by decide) (by omega) (by decide) ?_
            refine x_aload_n dX7_choosePair_82 3 rfl ?_
            refine x_get (v := .ref 29) dX7_choosePair_83 fX7_21 f25 (by decide) rfl ?_
            refine x_iload dX7_choosePair_86 0 rfl ?_
            refine x_ialdN (i := j) dX7_choosePair_88 f29 (by decide) (by omega) (by decide) ?_
            refine x_iadd dX7_choosePair_89 ?_
            refine x_iload_n dX7_choosePair_90 2 rfl ?_
            refine x_icmp_ge (tgt := 132) dX7_choosePair_91 (by decide) (fun c_91 => ?_) (fun c_91 => ?_)
            · refine x_iincN (lv2 := [(5, .int (nI (j + 1))), (4, .int (nI i)), (3, .int s.1), (0, .ref 25), (1, .int (nI ax)), (2, .int free)]) dX7_choosePair_132 0 rfl (by decide) rfl ?_
              refine x_goto (tgt := 17) dX7_choosePair_135 (by decide) ?_
              refine x_perm [0, 1, 2, 3, 4, 5] rfl ?_
              have eS : pjS ho co tk free i j s = s := if_neg (fun q => q.2.2.2.elim c_72 (fun z => absurd c_91 (by rw [(a2 c_34).2, (b2 c_45).2]; exact Int32.not_le.mpr z)))
              refine ih (j + 1) s y5 h (by omega) (by omega) f25 f27 f29 f30 sm hP ?_
              rw [pjJ, eS] at KX
              exact KX
            · refine x_aload_n dX7_choosePair_94 3 rfl ?_
              refine x_get (v := .ref 29) dX7_choosePair_95 fX7_21 f25 (by decide) rfl ?_
              refine x_iload dX7_choosePair_98 1 rfl ?_
              refine x_ialdN (i := i) dX7_choosePair_100 f29 (by decide) (by omega) (by decide) ?_
              refine x_aload_n dX7_choosePair_101 3 rfl ?_
              refine x_get (v := .ref 29) dX7_choosePair_102 fX7_21 f25 (by decide) rfl ?_
              refine x_iload dX7_choosePair_105 0 rfl ?_
              refine x_ialdN (i := j) dX7_choosePair_107 f29 (by decide) (by omega) (by decide) ?_
              refine x_iadd dX7_choosePair_108 ?_
              refine x_istore_n (lv2 := [(3, .int ((z4 i) + (z4 j))), (5, .int (nI j)), (4, .int (nI i)), (0, .ref 25), (1, .int (nI ax)), (2, .int free)]) dX7_choosePair_109 (by decide) rfl ?_
              refine x_aload_n dX7_choosePair_110 3 rfl ?_
              refine x_get (v := .ref 30) dX7_choosePair_111 fX7_24 f25 (by decide) rfl ?_
              refine x_iconst (v := 2) dX7_choosePair_114 (by decide) ?_
              refine x_iload_n dX7_choosePair_115 4 rfl ?_
              refine x_imulN (a := 2) (b := ax) dX7_choosePair_116 ?_
              refine x_iload dX7_choosePair_117 2 rfl ?_
              refine x_iastN (i := (2 * ax)) dX7_choosePair_119 f30 (by decide) (by omega) (by decide) (fun h119 a120 e121 l122 s123 => ?_)
              have f124 := (e121 25 (by decide)).trans f25
              have f125 := (e121 27 (by decide)).trans f27
              have f126 := (e121 29 (by decide)).trans f29
              have sm127 := Sm.put sm e121 l122 s123 (by decide)
              refine x_aload_n dX7_choosePair_120 3 rfl ?_
              refine x_get (v := .ref 30) dX7_choosePair_121 fX7_24 f124 (by decide) rfl ?_
              refine x_iconst (v := 2) dX7_choosePair_124 (by decide) ?_
              refine x_iload_n dX7_choosePair_125 4 rfl ?_
              refine x_imulN (a := 2) (b := ax) dX7_choosePair_126 ?_
              refine x_iconst (v := 1) dX7_choosePair_127 (by decide) ?_
              refine x_iaddN (a := (2 * ax)) (b := 1) dX7_choosePair_128 ?_
              refine x_iload dX7_choosePair_129 1 rfl ?_
              refine x_iastN (i := ((2 * ax) + 1)) dX7_choosePair_131 a120 (by decide) (by omega) (by decide) (fun h128 a129 e130 l131 s132 => ?_)
              have f133 := (e130 25 (by decide)).trans f124
              have f134 := (e130 27 (by decide)).trans f125
              have f135 := (e130 29 (by decide)).trans f126
              have sm136 := Sm.put sm127 e130 l131 s132 (by decide)
              refine x_iincN (lv2 := [(5, .int (nI (j + 1))), (3, .int ((z4 i) + (z4 j))), (4, .int (nI i)), (0, .ref 25), (1, .int (nI ax)), (2, .int free)]) dX7_choosePair_132 1 rfl (by decide) rfl ?_
              refine x_goto (tgt := 17) dX7_choosePair_135 (by decide) ?_
              refine x_perm [0, 2, 1, 3, 4, 5] rfl ?_
              have eS : pjS ho co tk free i j s = (co i + co j, i, j) := if_pos ⟨(a2 c_34).1, (b2 c_45).1, by rw [← t1, ← t2]; exact c_64, Or.inr (by rw [← (a2 c_34).2, ← (b2 c_45).2]; exact Int32.not_le.mp c_91)⟩
              rw [(a2 c_34).2, (b2 c_45).2]
              refine ih (j + 1) (co i + co j, i, j) _ h128 (by omega) (by omega) f133 f134 f135 a129 sm136 (PSt.upd hP) ?_
              rw [pjJ, eS] at KX
              exact KX
        · refine x_goto (tgt := 132) dX7_choosePair_67 (by decide) ?_
          refine x_iincN (lv2 := [(5, .int (nI (j + 1))), (4, .int (nI i)), (3, .int s.1), (0, .ref 25), (1, .int (nI ax)), (2, .int free)]) dX7_choosePair_132 0 rfl (by decide) rfl ?_
          refine x_goto (tgt := 17) dX7_choosePair_135 (by decide) ?_
          refine x_perm [0, 1, 2, 3, 4, 5] rfl ?_
          have eS : pjS ho co tk free i j s = s := if_neg (fun q => c_64 (by rw [t1, t2]; exact q.2.2.1))
          refine ih (j + 1) s y5 h (by omega) (by omega) f25 f27 f29 f30 sm hP ?_
          rw [pjJ, eS] at KX
          exact KX

set_option maxRecDepth 100000 in
set_option maxHeartbeats 4000000 in
theorem l_pairI {G : GT} {h0 : List PE} {K ax : Nat} {z2 z4 z5 : Nat → Int32} {ho : Nat → Bool} {co tk : Nat → Int32} {free : Int32} (hK : K ≤ 10) (hax : ax < 3) (e2 : ∀ q, q < K → z2 q = tk q) (e4 : ∀ q, q < K → (z4 q = if ho q = true then co q else -1) ∧ ¬ co q = -1) : ∀ (m i : Nat) (s : Int32 × Nat × Nat) (y5 : Nat → Int32) (h : List PE), K - i = m → i ≤ K → h[25]? = some (cO 7 [.ref 26, .ref 27, .ref 28, .ref 29, .ref 30, .ref 31, .int (nI K)]) → h[27]? = some (cI 10 z2) → h[29]? = some (cI 10 z4) → h[30]? = some (cI 6 y5) → Sm [30] h0 h → PSt z5 y5 ax s → X (NF G) G mX7_choosePair 0 0 5 [(4, .int (nI i)), (3, .int s.1), (0, .ref 25), (1, .int (nI ax)), (2, .int free)] [] h (fun o => o.1 = some (.int (pjI ho co tk free K m i s).1) ∧ Sm [30] h0 o.2 ∧ ∃ y5, o.2[30]? = some (cI 6 y5) ∧ PSt z5 y5 ax (pjI ho co tk free K m i s)) := by
  intro m
  induction m with
  | zero =>
    intro i s y5 h hm hi f25 f27 f29 f30 sm hP
    refine x_iload dX7_choosePair_5 0 rfl ?_
    refine x_aload_n dX7_choosePair_7 2 rfl ?_
    refine x_get (v := .int (nI K)) dX7_choosePair_8 fX7_30 f25 (by decide) rfl ?_
    refine x_icmp_geN (tgt := 144) (a := i) (b := K) (by omega) (by omega) dX7_choosePair_11 (by decide) (fun c_11 => ?_) (fun c_11 => absurd (by omega) c_11)
    refine x_iload_n dX7_choosePair_144 1 rfl ?_
    exact x_iret dX7_choosePair_145 rfl ⟨rfl, sm, y5, f30, hP⟩
  | succ m ih =>
    intro i s y5 h hm hi f25 f27 f29 f30 sm hP
    refine x_iload dX7_choosePair_5 0 rfl ?_
    refine x_aload_n dX7_choosePair_7 2 rfl ?_
    refine x_get (v := .int (nI K)) dX7_choosePair_8 fX7_30 f25 (by decide) rfl ?_
    refine x_icmp_geN (tgt := 144) (a := i) (b := K) (by omega) (by omega) dX7_choosePair_11 (by decide) (fun c_11 => absurd c_11 (by omega)) (fun c_11 => ?_)
    refine x_iconst (v := 0) dX7_choosePair_14 (by decide) ?_
    refine x_istore (lv2 := [(5, .int 0), (4, .int (nI i)), (3, .int s.1), (0, .ref 25), (1, .int (nI ax)), (2, .int free)]) dX7_choosePair_15 (by decide) rfl ?_
    refine x_perm [0, 1, 2, 3, 4, 5] rfl ?_
    refine l_pairJ hK hax e2 e4 (by omega) K 0 s y5 h rfl (by omega) f25 f27 f29 f30 sm hP (fun h1 y1 g25 g27 g29 g30 sm1 hP1 => ?_)
    refine x_iincN (lv2 := [(4, .int (nI (i + 1))), (3, .int (pjJ ho co tk free i K 0 s).1), (0, .ref 25), (1, .int (nI ax)), (2, .int free)]) dX7_choosePair_138 0 rfl (by decide) rfl ?_
    refine x_goto (tgt := 5) dX7_choosePair_141 (by decide) ?_
    refine x_perm [0, 1, 2, 3, 4] rfl ?_
    exact ih (i + 1) _ y1 h1 (by omega) (by omega) g25 g27 g29 g30 sm1 hP1

set_option maxRecDepth 100000 in
set_option maxHeartbeats 4000000 in
theorem c_choosePair {G : GT} {h0 : List PE} {K ax : Nat} {z2 z4 z5 : Nat → Int32} {ho : Nat → Bool} {co tk : Nat → Int32} {free : Int32} (hK : K ≤ 10) (hax : ax < 3) (e2 : ∀ q, q < K → z2 q = tk q) (e4 : ∀ q, q < K → (z4 q = if ho q = true then co q else -1) ∧ ¬ co q = -1) (f25 : h0[25]? = some (cO 7 [.ref 26, .ref 27, .ref 28, .ref 29, .ref 30, .ref 31, .int (nI K)])) (f27 : h0[27]? = some (cI 10 z2)) (f29 : h0[29]? = some (cI 10 z4)) (f30 : h0[30]? = some (cI 6 z5)) : CT G mX7_choosePair 0 0 [.ref 25, .int (nI ax), .int free] h0 (fun o => o.1 = some (.int (pjI ho co tk free K K 0 (-1, 0, 0)).1) ∧ Sm [30] h0 o.2 ∧ ∃ y5, o.2[30]? = some (cI 6 y5) ∧ PSt z5 y5 ax (pjI ho co tk free K K 0 (-1, 0, 0))) := by
  show X (NF G) G mX7_choosePair 0 0 0 [(0, .ref 25), (1, .int (nI ax)), (2, .int free)] [] h0 _
  refine x_iconst (v := (-1)) dX7_choosePair_0 (by decide) ?_
  refine x_istore_n (lv2 := [(3, .int (-1)), (0, .ref 25), (1, .int (nI ax)), (2, .int free)]) dX7_choosePair_1 (by decide) rfl ?_
  refine x_iconst (v := 0) dX7_choosePair_2 (by decide) ?_
  refine x_istore (lv2 := [(4, .int 0), (3, .int (-1)), (0, .ref 25), (1, .int (nI ax)), (2, .int free)]) dX7_choosePair_3 (by decide) rfl ?_
  refine x_perm (lv2 := [(4, .int (nI 0)), (3, .int ((-1 : Int32), 0, 0).1), (0, .ref 25), (1, .int (nI ax)), (2, .int free)]) [0, 1, 2, 3, 4] rfl ?_
  exact l_pairI hK hax e2 e4 K 0 (-1, 0, 0) z5 h0 rfl (by omega) f25 f27 f29 f30 Sm.rf ⟨fun j _ _ => rfl, fun q => absurd rfl q⟩

abbrev pjR (ho : Nat → Bool) (co tk : Nat → Int32) (K : Nat) (free : Int32) : Int32 × Nat × Nat := pjI ho co tk free K K 0 (-1, 0, 0)
/-- the cost of all six PADS, and which KINDS they are -/
def spPa (R : Nat → Int32 × Nat × Nat) : Option (Int32 × (Nat → Int32)) := if (R 0).1 = -1 ∨ (R 1).1 = -1 ∨ (R 2).1 = -1 then none else some ((R 0).1 + (R 1).1 + (R 2).1, fun j => if j = 0 then nI (R 0).2.1 else if j = 1 then nI (R 0).2.2 else if j = 2 then nI (R 1).2.1 else if j = 3 then nI (R 1).2.2 else if j = 4 then nI (R 2).2.1 else nI (R 2).2.2)
theorem six {P : Nat → Prop} (h0 : P 0) (h1 : P 1) (h2 : P 2) (h3 : P 3) (h4 : P 4) (h5 : P 5) : ∀ j, j < 6 → P j
  | 0, _ => h0
  | 1, _ => h1
  | 2, _ => h2
  | 3, _ => h3
  | 4, _ => h4
  | 5, _ => h5
  | n + 6, h => absurd h (by omega)

theorem lat3 {z z1 z2 z3 z6 : Nat → Int32} {R : Nat → Int32 × Nat × Nat} (d0 : ¬ (R 0).1 = -1) (d1 : ¬ (R 1).1 = -1) (d2 : ¬ (R 2).1 = -1) (p0 : PSt z z1 0 (R 0)) (p1 : PSt z1 z2 1 (R 1)) (p2 : PSt z2 z3 2 (R 2)) : ∀ j, j < 6 → upd (upd (upd (upd (upd (upd z6 0 (z3 0)) 1 (z3 1)) 2 (z3 2)) 3 (z3 3)) 4 (z3 4)) 5 (z3 5) j = (fun j => if j = 0 then nI (R 0).2.1 else if j = 1 then nI (R 0).2.2 else if j = 2 then nI (R 1).2.1 else if j = 3 then nI (R 1).2.2 else if j = 4 then nI (R 2).2.1 else nI (R 2).2.2) j := by
  have a0 : z3 0 = nI (R 0).2.1 := by rw [p2.1 0 (by decide) (by decide), p1.1 0 (by decide) (by decide)]; exact (p0.2 d0).1
  have a1 : z3 1 = nI (R 0).2.2 := by rw [p2.1 1 (by decide) (by decide), p1.1 1 (by decide) (by decide)]; exact (p0.2 d0).2
  have a2 : z3 2 = nI (R 1).2.1 := by rw [p2.1 2 (by decide) (by decide)]; exact (p1.2 d1).1
  have a3 : z3 3 = nI (R 1).2.2 := by rw [p2.1 3 (by decide) (by decide)]; exact (p1.2 d1).2
  have a4 : z3 4 = nI (R 2).2.1 := (p2.2 d2).1
  have a5 : z3 5 = nI (R 2).2.2 := (p2.2 d2).2
  rw [a0, a1, a2, a3, a4, a5]
  exact six rfl rfl rfl rfl rfl rfl

set_option maxRecDepth 100000 in
set_option maxHeartbeats 4000000 in
theorem c_choose {G : GT} {h : List PE} {K : Nat} {z1 z2 z3 z4 z5 z6 rec : Nat → Int32} {ho : Nat → Bool} {co tk : Nat → Int32} {k b ta ba : Nat} {fq : Nat → Nat} (hK : K ≤ 10) (e2 : ∀ q, q < K → z2 q = tk q) (e4 : ∀ q, q < K → (z4 q = if ho q = true then co q else -1) ∧ ¬ co q = -1) (hT : ThingAt h rec (164 + 24 * k) fq ta) (hX : BoxAt h rec (356 + 6 * b) ba) (f25 : h[25]? = some (cO 7 [.ref 26, .ref 27, .ref 28, .ref 29, .ref 30, .ref 31, .int (nI K)])) (f27 : h[27]? = some (cI 10 z2)) (f29 : h[29]? = some (cI 10 z4)) (f30 : h[30]? = some (cI 6 z5)) (f31 : h[31]? = some (cI 6 z6)) : CT G mX7_choose 1 25 [.ref 25, .ref ta, .ref ba] h (fun o => Sm [30, 31] h o.2 ∧ ∃ (y5 y6 : Nat → Int32), o.2[30]? = some (cI 6 y5) ∧ o.2[31]? = some (cI 6 y6) ∧ match spPa (fun a => pjR ho co tk K (rec (356 + 6 * b + a) - rec (164 + 24 * k + 1 + a))) with | none => o.1 = some (.int (-1)) ∧ y6 = z6 | some x => o.1 = some (.int x.1) ∧ ∀ j, j < 6 → y6 j = x.2 j) := by
  obtain ⟨hta, s1, s2, s3, s4, w1, w2, w3, w4, hs1, -, -, -, fta, fs1, -, -, -, es1, -⟩ := id hT
  obtain ⟨hba, p, zz, hp, fba, fp, ezz⟩ := id hX
  have sm0 : Sm [30, 31] h h := Sm.rf
  show X (NF G) G mX7_choose 1 25 0 [(0, .ref 25), (1, .ref ta), (2, .ref ba)] [] h _
  refine x_iconst (v := 0) dX7_choose_0 (by decide) ?_
  refine x_istore_n (lv2 := [(3, .int 0), (0, .ref 25), (1, .ref ta), (2, .ref ba)]) dX7_choose_1 (by decide) rfl ?_
  refine x_iconst (v := 0) dX7_choose_2 (by decide) ?_
  refine x_istore (lv2 := [(4, .int 0), (3, .int 0), (0, .ref 25), (1, .ref ta), (2, .ref ba)]) dX7_choose_3 (by decide) rfl ?_
  refine x_iload dX7_choose_5 0 rfl ?_
  refine x_iconst (v := 3) dX7_choose_7 (by decide) ?_
  refine x_icmp_ge (tgt := 53) dX7_choose_8 (by decide) (fun c_8 => absurd c_8 (by decide)) (fun c_8 => ?_)
  refine x_aload_n dX7_choose_11 2 rfl ?_
  refine x_iload dX7_choose_12 0 rfl ?_
  refine x_aload_n dX7_choose_14 4 rfl ?_
  refine x_get (v := .ref p) dX7_choose_15 fX7_54 fba (by omega) rfl ?_
  refine x_iload dX7_choose_18 0 rfl ?_
  refine x_ialdN (i := 0) dX7_choose_20 fp (by omega) (by omega) (by decide) ?_
  refine x_aload_n dX7_choose_21 3 rfl ?_
  refine x_get (v := .ref s1) dX7_choose_22 fX7_59 fta (by omega) rfl ?_
  refine x_iload dX7_choose_25 0 rfl ?_
  refine x_ialdN (i := 0) dX7_choose_27 fs1 (by omega) (by omega) (by decide) ?_
  refine x_isub dX7_choose_28 ?_
  rw [ezz 0 (by decide), es1 0 (by decide)]
  refine x_callV (rf' := 0) (rl' := 0) [.int 0, .int (rec (356 + 6 * b + 0) - rec (164 + 24 * k + 1 + 0))] [] dX7_choose_29 vX7_64 Y_X7_choosePair f25 (by decide) rfl rfl (Nat.le_of_ble_eq_true rfl) (Nat.le_of_ble_eq_true rfl) (by decide) (by decide) (c_choosePair (ax := 0) (free := (rec (356 + 6 * b + 0) - rec (164 + 24 * k + 1 + 0))) hK (by decide) e2 e4 f25 f27 f29 f30) (fun r h1 q1 => ?_)
  obtain ⟨q0, sm4, y2, g3, P5⟩ := q1
  cases q0
  have f6 := sm4.at f25 (by simp)
  have f7 := sm4.at f27 (by simp)
  have f8 := sm4.at f29 (by simp)
  have f9 := sm4.at f31 (by simp)
  have f10 := sm4.at fta (by simp; omega)
  have f11 := sm4.at fs1 (by simp; omega)
  have f12 := sm4.at fba (by simp; omega)
  have f13 := sm4.at fp (by simp; omega)
  have sm14 := sm0.tr (sm4.wide (by decide))
  change X _ _ _ _ _ _ _ ([.int ((fun a => pjR ho co tk K (rec (356 + 6 * b + a) - rec (164 + 24 * k + 1 + a))) 0).1] ++ []) _ _
  refine x_istore (lv2 := [(5, .int ((fun a => pjR ho co tk K (rec (356 + 6 * b + a) - rec (164 + 24 * k + 1 + a))) 0).1), (4, .int 0), (3, .int 0), (0, .ref 25), (1, .ref ta), (2, .ref ba)]) dX7_choose_32 (by decide) rfl ?_
  refine x_iload dX7_choose_34 0 rfl ?_
  refine x_iconst (v := (-1)) dX7_choose_36 (by decide) ?_
  refine x_icmp_ne (tgt := 42) dX7_choose_37 (by decide) (fun c_37 => ?_) (fun c_37 => ?_)
  · have d0 := c_37
    refine x_iload_n dX7_choose_42 2 rfl ?_
    refine x_iload dX7_choose_43 0 rfl ?_
    refine x_iadd dX7_choose_45 ?_
    refine x_istore_n (lv2 := [(3, .int (0 + ((fun a => pjR ho co tk K (rec (356 + 6 * b + a) - rec (164 + 24 * k + 1 + a))) 0).1)), (5, .int ((fun a => pjR ho co tk K (rec (356 + 6 * b + a) - rec (164 + 24 * k + 1 + a))) 0).1), (4, .int 0), (0, .ref 25), (1, .ref ta), (2, .ref ba)]) dX7_choose_46 (by decide) rfl ?_
    refine x_iinc (lv2 := [(4, .int 1), (3, .int (0 + ((fun a => pjR ho co tk K (rec (356 + 6 * b + a) - rec (164 + 24 * k + 1 + a))) 0).1)), (5, .int ((fun a => pjR ho co tk K (rec (356 + 6 * b + a) - rec (164 + 24 * k + 1 + a))) 0).1), (0, .ref 25), (1, .ref ta), (2, .ref ba)]) dX7_choose_47 2 rfl (by decide) (by decide) rfl ?_
    refine x_goto (tgt := 5) dX7_choose_50 (by decide) ?_
    refine x_iload dX7_choose_5 0 rfl ?_
    refine x_iconst (v := 3) dX7_choose_7 (by decide) ?_
    refine x_icmp_ge (tgt := 53) dX7_choose_8 (by decide) (fun c_8 => absurd c_8 (by decide)) (fun c_8 => ?_)
    refine x_aload_n dX7_choose_11 3 rfl ?_
    refine x_iload dX7_choose_12 0 rfl ?_
    refine x_aload_n dX7_choose_14 5 rfl ?_
    refine x_get (v := .ref p) dX7_choose_15 fX7_54 f12 (by omega) rfl ?_
    refine x_iload dX7_choose_18 0 rfl ?_
    refine x_ialdN (i := 1) dX7_choose_20 f13 (by omega) (by omega) (by decide) ?_
    refine x_aload_n dX7_choose_21 4 rfl ?_
    refine x_get (v := .ref s1) dX7_choose_22 fX7_59 f10 (by omega) rfl ?_
    refine x_iload dX7_choose_25 0 rfl ?_
    refine x_ialdN (i := 1) dX7_choose_27 f11 (by omega) (by omega) (by decide) ?_
    refine x_isub dX7_choose_28 ?_
    rw [ezz 1 (by decide), es1 1 (by decide)]
    refine x_callV (rf' := 0) (rl' := 0) [.int 1, .int (rec (356 + 6 * b + 1) - rec (164 + 24 * k + 1 + 1))] [] dX7_choose_29 vX7_64 Y_X7_choosePair f6 (by decide) rfl rfl (Nat.le_of_ble_eq_true rfl) (Nat.le_of_ble_eq_true rfl) (by decide) (by decide) (c_choosePair (ax := 1) (free := (rec (356 + 6 * b + 1) - rec (164 + 24 * k + 1 + 1))) hK (by decide) e2 e4 f6 f7 f8 g3) (fun r h15 q1 => ?_)
    obtain ⟨q0, sm18, y16, g17, P19⟩ := q1
    cases q0
    have f20 := sm18.at f6 (by simp)
    have f21 := sm18.at f7 (by simp)
    have f22 := sm18.at f8 (by simp)
    have f23 := sm18.at f9 (by simp)
    have f24 := sm18.at f10 (by simp; omega)
    have f25 := sm18.at f11 (by simp; omega)
    have f26 := sm18.at f12 (by simp; omega)
    have f27 := sm18.at f13 (by simp; omega)
    have sm28 := sm14.tr (sm18.wide (by decide))
    change X _ _ _ _ _ _ _ ([.int ((fun a => pjR ho co tk K (rec (356 + 6 * b + a) - rec (164 + 24 * k + 1 + a))) 1).1] ++ []) _ _
    refine x_istore (lv2 := [(5, .int ((fun a => pjR ho co tk K (rec (356 + 6 * b + a) - rec (164 + 24 * k + 1 + a))) 1).1), (4, .int 1), (3, .int (0 + ((fun a => pjR ho co tk K (rec (356 + 6 * b + a) - rec (164 + 24 * k + 1 + a))) 0).1)), (0, .ref 25), (1, .ref ta), (2, .ref ba)]) dX7_choose_32 (by decide) rfl ?_
    refine x_iload dX7_choose_34 0 rfl ?_
    refine x_iconst (v := (-1)) dX7_choose_36 (by decide) ?_
    refine x_icmp_ne (tgt := 42) dX7_choose_37 (by decide) (fun c_37 => ?_) (fun c_37 => ?_)
    · have d1 := c_37
      refine x_iload_n dX7_choose_42 2 rfl ?_
      refine x_iload dX7_choose_43 0 rfl ?_
      refine x_iadd dX7_choose_45 ?_
      refine x_istore_n (lv2 := [(3, .int ((0 + ((fun a => pjR ho co tk K (rec (356 + 6 * b + a) - rec (164 + 24 * k + 1 + a))) 0).1) + ((fun a => pjR ho co tk K (rec (356 + 6 * b + a) - rec (164 + 24 * k + 1 + a))) 1).1)), (5, .int ((fun a => pjR ho co tk K (rec (356 + 6 * b + a) - rec (164 + 24 * k + 1 + a))) 1).1), (4, .int 1), (0, .ref 25), (1, .ref ta), (2, .ref ba)]) dX7_choose_46 (by decide) rfl ?_
      refine x_iinc (lv2 := [(4, .int 2), (3, .int ((0 + ((fun a => pjR ho co tk K (rec (356 + 6 * b + a) - rec (164 + 24 * k + 1 + a))) 0).1) + ((fun a => pjR ho co tk K (rec (356 + 6 * b + a) - rec (164 + 24 * k + 1 + a))) 1).1)), (5, .int ((fun a => pjR ho co tk K (rec (356 + 6 * b + a) - rec (164 + 24 * k + 1 + a))) 1).1), (0, .ref 25), (1, .ref ta), (2, .ref ba)]) dX7_choose_47 2 rfl (by decide) (by decide) rfl ?_
      refine x_goto (tgt := 5) dX7_choose_50 (by decide) ?_
      refine x_iload dX7_choose_5 0 rfl ?_
      refine x_iconst (v := 3) dX7_choose_7 (by decide) ?_
      refine x_icmp_ge (tgt := 53) dX7_choose_8 (by decide) (fun c_8 => absurd c_8 (by decide)) (fun c_8 => ?_)
      refine x_aload_n dX7_choose_11 3 rfl ?_
      refine x_iload dX7_choose_12 0 rfl ?_
      refine x_aload_n dX7_choose_14 5 rfl ?_
      refine x_get (v := .ref p) dX7_choose_15 fX7_54 f26 (by omega) rfl ?_
      refine x_iload dX7_choose_18 0 rfl ?_
      refine x_ialdN (i := 2) dX7_choose_20 f27 (by omega) (by omega) (by decide) ?_
      refine x_aload_n dX7_choose_21 4 rfl ?_
      refine x_get (v := .ref s1) dX7_choose_22 fX7_59 f24 (by omega) rfl ?_
      refine x_iload dX7_choose_25 0 rfl ?_
      refine x_ialdN (i := 2) dX7_choose_27 f25 (by omega) (by omega) (by decide) ?_
      refine x_isub dX7_choose_28 ?_
      rw [ezz 2 (by decide), es1 2 (by decide)]
      refine x_callV (rf' := 0) (rl' := 0) [.int 2, .int (rec (356 + 6 * b + 2) - rec (164 + 24 * k + 1 + 2))] [] dX7_choose_29 vX7_64 Y_X7_choosePair f20 (by decide) rfl rfl (Nat.le_of_ble_eq_true rfl) (Nat.le_of_ble_eq_true rfl) (by decide) (by decide) (c_choosePair (ax := 2) (free := (rec (356 + 6 * b + 2) - rec (164 + 24 * k + 1 + 2))) hK (by decide) e2 e4 f20 f21 f22 g17) (fun r h29 q1 => ?_)
      obtain ⟨q0, sm32, y30, g31, P33⟩ := q1
      cases q0
      have f34 := sm32.at f20 (by simp)
      have f35 := sm32.at f21 (by simp)
      have f36 := sm32.at f22 (by simp)
      have f37 := sm32.at f23 (by simp)
      have f38 := sm32.at f24 (by simp; omega)
      have f39 := sm32.at f25 (by simp; omega)
      have f40 := sm32.at f26 (by simp; omega)
      have f41 := sm32.at f27 (by simp; omega)
      have sm42 := sm28.tr (sm32.wide (by decide))
      change X _ _ _ _ _ _ _ ([.int ((fun a => pjR ho co tk K (rec (356 + 6 * b + a) - rec (164 + 24 * k + 1 + a))) 2).1] ++ []) _ _
      refine x_istore (lv2 := [(5, .int ((fun a => pjR ho co tk K (rec (356 + 6 * b + a) - rec (164 + 24 * k + 1 + a))) 2).1), (4, .int 2), (3, .int ((0 + ((fun a => pjR ho co tk K (rec (356 + 6 * b + a) - rec (164 + 24 * k + 1 + a))) 0).1) + ((fun a => pjR ho co tk K (rec (356 + 6 * b + a) - rec (164 + 24 * k + 1 + a))) 1).1)), (0, .ref 25), (1, .ref ta), (2, .ref ba)]) dX7_choose_32 (by decide) rfl ?_
      refine x_iload dX7_choose_34 0 rfl ?_
      refine x_iconst (v := (-1)) dX7_choose_36 (by decide) ?_
      refine x_icmp_ne (tgt := 42) dX7_choose_37 (by decide) (fun c_37 => ?_) (fun c_37 => ?_)
      · have d2 := c_37
        refine x_iload_n dX7_choose_42 2 rfl ?_
        refine x_iload dX7_choose_43 0 rfl ?_
        refine x_iadd dX7_choose_45 ?_
        refine x_istore_n (lv2 := [(3, .int (((0 + ((fun a => pjR ho co tk K (rec (356 + 6 * b + a) - rec (164 + 24 * k + 1 + a))) 0).1) + ((fun a => pjR ho co tk K (rec (356 + 6 * b + a) - rec (164 + 24 * k + 1 + a))) 1).1) + ((fun a => pjR ho co tk K (rec (356 + 6 * b + a) - rec (164 + 24 * k + 1 + a))) 2).1)), (5, .int ((fun a => pjR ho co tk K (rec (356 + 6 * b + a) - rec (164 + 24 * k + 1 + a))) 2).1), (4, .int 2), (0, .ref 25), (1, .ref ta), (2, .ref ba)]) dX7_choose_46 (by decide) rfl ?_
        refine x_iinc (lv2 := [(4, .int 3), (3, .int (((0 + ((fun a => pjR ho co tk K (rec (356 + 6 * b + a) - rec (164 + 24 * k + 1 + a))) 0).1) + ((fun a => pjR ho co tk K (rec (356 + 6 * b + a) - rec (164 + 24 * k + 1 + a))) 1).1) + ((fun a => pjR ho co tk K (rec (356 + 6 * b + a) - rec (164 + 24 * k + 1 + a))) 2).1)), (5, .int ((fun a => pjR ho co tk K (rec (356 + 6 * b + a) - rec (164 + 24 * k + 1 + a))) 2).1), (0, .ref 25), (1, .ref ta), (2, .ref ba)]) dX7_choose_47 2 rfl (by decide) (by decide) rfl ?_
        refine x_goto (tgt := 5) dX7_choose_50 (by decide) ?_
        refine x_iload dX7_choose_5 0 rfl ?_
        refine x_iconst (v := 3) dX7_choose_7 (by decide) ?_
        refine x_icmp_ge (tgt := 53) dX7_choose_8 (by decide) (fun c_8 => ?_) (fun c_8 => absurd (by decide) c_8)
        refine x_iconst (v := 0) dX7_choose_53 (by decide) ?_
        refine x_istore (lv2 := [(4, .int 0), (3, .int (((0 + ((fun a => pjR ho co tk K (rec (356 + 6 * b + a) - rec (164 + 24 * k + 1 + a))) 0).1) + ((fun a => pjR ho co tk K (rec (356 + 6 * b + a) - rec (164 + 24 * k + 1 + a))) 1).1) + ((fun a => pjR ho co tk K (rec (356 + 6 * b + a) - rec (164 + 24 * k + 1 + a))) 2).1)), (5, .int ((fun a => pjR ho co tk K (rec (356 + 6 * b + a) - rec (164 + 24 * k + 1 + a))) 2).1), (0, .ref 25), (1, .ref ta), (2, .ref ba)]) dX7_choose_54 (by decide) rfl ?_
        refine x_iload dX7_choose_56 0 rfl ?_
        refine x_bipush (v := 6) dX7_choose_58 (by decide) ?_
        refine x_icmp_ge (tgt := 83) dX7_choose_60 (by decide) (fun c_60 => absurd c_60 (by decide)) (fun c_60 => ?_)
        refine x_aload_n dX7_choose_63 3 rfl ?_
        refine x_get (v := .ref 31) dX7_choose_64 fX7_27 f34 (by decide) rfl ?_
        refine x_iload dX7_choose_67 0 rfl ?_
        refine x_aload_n dX7_choose_69 3 rfl ?_
        refine x_get (v := .ref 30) dX7_choose_70 fX7_24 f34 (by decide) rfl ?_
        refine x_iload dX7_choose_73 0 rfl ?_
        refine x_ialdN (i := 0) dX7_choose_75 g31 (by decide) (by omega) (by decide) ?_
        refine x_iastN (i := 0) dX7_choose_76 f37 (by decide) (by omega) (by decide) (fun h43 a44 e45 l46 s47 => ?_)
        have f48 := (e45 25 (by decide)).trans f34
        have f49 := (e45 27 (by decide)).trans f35
        have f50 := (e45 29 (by decide)).trans f36
        have f51 := (e45 30 (by decide)).trans g31
        have f52 := (e45 ta (by omega)).trans f38
        have f53 := (e45 s1 (by omega)).trans f39
        have f54 := (e45 ba (by omega)).trans f40
        have f55 := (e45 p (by omega)).trans f41
        have sm56 := Sm.put sm42 e45 l46 s47 (by decide)
        refine x_iinc (lv2 := [(4, .int 1), (3, .int (((0 + ((fun a => pjR ho co tk K (rec (356 + 6 * b + a) - rec (164 + 24 * k + 1 + a))) 0).1) + ((fun a => pjR ho co tk K (rec (356 + 6 * b + a) - rec (164 + 24 * k + 1 + a))) 1).1) + ((fun a => pjR ho co tk K (rec (356 + 6 * b + a) - rec (164 + 24 * k + 1 + a))) 2).1)), (5, .int ((fun a => pjR ho co tk K (rec (356 + 6 * b + a) - rec (164 + 24 * k + 1 + a))) 2).1), (0, .ref 25), (1, .ref ta), (2, .ref ba)]) dX7_choose_77 0 rfl (by decide) (by decide) rfl ?_
        refine x_goto (tgt := 56) dX7_choose_80 (by decide) ?_
        refine x_iload dX7_choose_56 0 rfl ?_
        refine x_bipush (v := 6) dX7_choose_58 (by decide) ?_
        refine x_icmp_ge (tgt := 83) dX7_choose_60 (by decide) (fun c_60 => absurd c_60 (by decide)) (fun c_60 => ?_)
        refine x_aload_n dX7_choose_63 3 rfl ?_
        refine x_get (v := .ref 31) dX7_choose_64 fX7_27 f48 (by decide) rfl ?_
        refine x_iload dX7_choose_67 0 rfl ?_
        refine x_aload_n dX7_choose_69 3 rfl ?_
        refine x_get (v := .ref 30) dX7_choose_70 fX7_24 f48 (by decide) rfl ?_
        refine x_iload dX7_choose_73 0 rfl ?_
        refine x_ialdN (i := 1) dX7_choose_75 f51 (by decide) (by omega) (by decide) ?_
        refine x_iastN (i := 1) dX7_choose_76 a44 (by decide) (by omega) (by decide) (fun h57 a58 e59 l60 s61 => ?_)
        have f62 := (e59 25 (by decide)).trans f48
        have f63 := (e59 27 (by decide)).trans f49
        have f64 := (e59 29 (by decide)).trans f50
        have f65 := (e59 30 (by decide)).trans f51
        have f66 := (e59 ta (by omega)).trans f52
        have f67 := (e59 s1 (by omega)).trans f53
        have f68 := (e59 ba (by omega)).trans f54
        have f69 := (e59 p (by omega)).trans f55
        have sm70 := Sm.put sm56 e59 l60 s61 (by decide)
        refine x_iinc (lv2 := [(4, .int 2), (3, .int (((0 + ((fun a => pjR ho co tk K (rec (356 + 6 * b + a) - rec (164 + 24 * k + 1 + a))) 0).1) + ((fun a => pjR ho co tk K (rec (356 + 6 * b + a) - rec (164 + 24 * k + 1 + a))) 1).1) + ((fun a => pjR ho co tk K (rec (356 + 6 * b + a) - rec (164 + 24 * k + 1 + a))) 2).1)), (5, .int ((fun a => pjR ho co tk K (rec (356 + 6 * b + a) - rec (164 + 24 * k + 1 + a))) 2).1), (0, .ref 25), (1, .ref ta), (2, .ref ba)]) dX7_choose_77 0 rfl (by decide) (by decide) rfl ?_
        refine x_goto (tgt := 56) dX7_choose_80 (by decide) ?_
        refine x_iload dX7_choose_56 0 rfl ?_
        refine x_bipush (v := 6) dX7_choose_58 (by decide) ?_
        refine x_icmp_ge (tgt := 83) dX7_choose_60 (by decide) (fun c_60 => absurd c_60 (by decide)) (fun c_60 => ?_)
        refine x_aload_n dX7_choose_63 3 rfl ?_
        refine x_get (v := .ref 31) dX7_choose_64 fX7_27 f62 (by decide) rfl ?_
        refine x_iload dX7_choose_67 0 rfl ?_
        refine x_aload_n dX7_choose_69 3 rfl ?_
        refine x_get (v := .ref 30) dX7_choose_70 fX7_24 f62 (by decide) rfl ?_
        refine x_iload dX7_choose_73 0 rfl ?_
        refine x_ialdN (i := 2) dX7_choose_75 f65 (by decide) (by omega) (by decide) ?_
        refine x_iastN (i := 2) dX7_choose_76 a58 (by decide) (by omega) (by decide) (fun h71 a72 e73 l74 s75 => ?_)
        have f76 := (e73 25 (by decide)).trans f62
        have f77 := (e73 27 (by decide)).trans f63
        have f78 := (e73 29 (by decide)).trans f64
        have f79 := (e73 30 (by decide)).trans f65
        have f80 := (e73 ta (by omega)).trans f66
        have f81 := (e73 s1 (by omega)).trans f67
        have f82 := (e73 ba (by omega)).trans f68
        have f83 := (e73 p (by omega)).trans f69
        have sm84 := Sm.put sm70 e73 l74 s75 (by decide)
        refine x_iinc (lv2 := [(4, .int 3), (3, .int (((0 + ((fun a => pjR ho co tk K (rec (356 + 6 * b + a) - rec (164 + 24 * k + 1 + a))) 0).1) + ((fun a => pjR ho co tk K (rec (356 + 6 * b + a) - rec (164 + 24 * k + 1 + a))) 1).1) + ((fun a => pjR ho co tk K (rec (356 + 6 * b + a) - rec (164 + 24 * k + 1 + a))) 2).1)), (5, .int ((fun a => pjR ho co tk K (rec (356 + 6 * b + a) - rec (164 + 24 * k + 1 + a))) 2).1), (0, .ref 25), (1, .ref ta), (2, .ref ba)]) dX7_choose_77 0 rfl (by decide) (by decide) rfl ?_
        refine x_goto (tgt := 56) dX7_choose_80 (by decide) ?_
        refine x_iload dX7_choose_56 0 rfl ?_
        refine x_bipush (v := 6) dX7_choose_58 (by decide) ?_
        refine x_icmp_ge (tgt := 83) dX7_choose_60 (by decide) (fun c_60 => absurd c_60 (by decide)) (fun c_60 => ?_)
        refine x_aload_n dX7_choose_63 3 rfl ?_
        refine x_get (v := .ref 31) dX7_choose_64 fX7_27 f76 (by decide) rfl ?_
        refine x_iload dX7_choose_67 0 rfl ?_
        refine x_aload_n dX7_choose_69 3 rfl ?_
        refine x_get (v := .ref 30) dX7_choose_70 fX7_24 f76 (by decide) rfl ?_
        refine x_iload dX7_choose_73 0 rfl ?_
        refine x_ialdN (i := 3) dX7_choose_75 f79 (by decide) (by omega) (by decide) ?_
        refine x_iastN (i := 3) dX7_choose_76 a72 (by decide) (by omega) (by decide) (fun h85 a86 e87 l88 s89 => ?_)
        have f90 := (e87 25 (by decide)).trans f76
        have f91 := (e87 27 (by decide)).trans f77
        have f92 := (e87 29 (by decide)).trans f78
        have f93 := (e87 30 (by decide)).trans f79
        have f94 := (e87 ta (by omega)).trans f80
        have f95 := (e87 s1 (by omega)).trans f81
        have f96 := (e87 ba (by omega)).trans f82
        have f97 := (e87 p (by omega)).trans f83
        have sm98 := Sm.put sm84 e87 l88 s89 (by decide)
        refine x_iinc (lv2 := [(4, .int 4), (3, .int (((0 + ((fun a => pjR ho co tk K (rec (356 + 6 * b + a) - rec (164 + 24 * k + 1 + a))) 0).1) + ((fun a => pjR ho co tk K (rec (356 + 6 * b + a) - rec (164 + 24 * k + 1 + a))) 1).1) + ((fun a => pjR ho co tk K (rec (356 + 6 * b + a) - rec (164 + 24 * k + 1 + a))) 2).1)), (5, .int ((fun a => pjR ho co tk K (rec (356 + 6 * b + a) - rec (164 + 24 * k + 1 + a))) 2).1), (0, .ref 25), (1, .ref ta), (2, .ref ba)]) dX7_choose_77 0 rfl (by decide) (by decide) rfl ?_
        refine x_goto (tgt := 56) dX7_choose_80 (by decide) ?_
        refine x_iload dX7_choose_56 0 rfl ?_
        refine x_bipush (v := 6) dX7_choose_58 (by decide) ?_
        refine x_icmp_ge (tgt := 83) dX7_choose_60 (by decide) (fun c_60 => absurd c_60 (by decide)) (fun c_60 => ?_)
        refine x_aload_n dX7_choose_63 3 rfl ?_
        refine x_get (v := .ref 31) dX7_choose_64 fX7_27 f90 (by decide) rfl ?_
        refine x_iload dX7_choose_67 0 rfl ?_
        refine x_aload_n dX7_choose_69 3 rfl ?_
        refine x_get (v := .ref 30) dX7_choose_70 fX7_24 f90 (by decide) rfl ?_
        refine x_iload dX7_choose_73 0 rfl ?_
        refine x_ialdN (i := 4) dX7_choose_75 f93 (by decide) (by omega) (by decide) ?_
        refine x_iastN (i := 4) dX7_choose_76 a86 (by decide) (by omega) (by decide) (fun h99 a100 e101 l102 s103 => ?_)
        have f104 := (e101 25 (by decide)).trans f90
        have f105 := (e101 27 (by decide)).trans f91
        have f106 := (e101 29 (by decide)).trans f92
        have f107 := (e101 30 (by decide)).trans f93
        have f108 := (e101 ta (by omega)).trans f94
        have f109 := (e101 s1 (by omega)).trans f95
        have f110 := (e101 ba (by omega)).trans f96
        have f111 := (e101 p (by omega)).trans f97
        have sm112 := Sm.put sm98 e101 l102 s103 (by decide)
        refine x_iinc (lv2 := [(4, .int 5), (3, .int (((0 + ((fun a => pjR ho co tk K (rec (356 + 6 * b + a) - rec (164 + 24 * k + 1 + a))) 0).1) + ((fun a => pjR ho co tk K (rec (356 + 6 * b + a) - rec (164 + 24 * k + 1 + a))) 1).1) + ((fun a => pjR ho co tk K (rec (356 + 6 * b + a) - rec (164 + 24 * k + 1 + a))) 2).1)), (5, .int ((fun a => pjR ho co tk K (rec (356 + 6 * b + a) - rec (164 + 24 * k + 1 + a))) 2).1), (0, .ref 25), (1, .ref ta), (2, .ref ba)]) dX7_choose_77 0 rfl (by decide) (by decide) rfl ?_
        refine x_goto (tgt := 56) dX7_choose_80 (by decide) ?_
        refine x_iload dX7_choose_56 0 rfl ?_
        refine x_bipush (v := 6) dX7_choose_58 (by decide) ?_
        refine x_icmp_ge (tgt := 83) dX7_choose_60 (by decide) (fun c_60 => absurd c_60 (by decide)) (fun c_60 => ?_)
        refine x_aload_n dX7_choose_63 3 rfl ?_
        refine x_get (v := .ref 31) dX7_choose_64 fX7_27 f104 (by decide) rfl ?_
        refine x_iload dX7_choose_67 0 rfl ?_
        refine x_aload_n dX7_choose_69 3 rfl ?_
        refine x_get (v := .ref 30) dX7_choose_70 fX7_24 f104 (by decide) rfl ?_
        refine x_iload dX7_choose_73 0 rfl ?_
        refine x_ialdN (i := 5) dX7_choose_75 f107 (by decide) (by omega) (by decide) ?_
        refine x_iastN (i := 5) dX7_choose_76 a100 (by decide) (by omega) (by decide) (fun h113 a114 e115 l116 s117 => ?_)
        have f118 := (e115 25 (by decide)).trans f104
        have f119 := (e115 27 (by decide)).trans f105
        have f120 := (e115 29 (by decide)).trans f106
        have f121 := (e115 30 (by decide)).trans f107
        have f122 := (e115 ta (by omega)).trans f108
        have f123 := (e115 s1 (by omega)).trans f109
        have f124 := (e115 ba (by omega)).trans f110
        have f125 := (e115 p (by omega)).trans f111
        have sm126 := Sm.put sm112 e115 l116 s117 (by decide)
        refine x_iinc (lv2 := [(4, .int 6), (3, .int (((0 + ((fun a => pjR ho co tk K (rec (356 + 6 * b + a) - rec (164 + 24 * k + 1 + a))) 0).1) + ((fun a => pjR ho co tk K (rec (356 + 6 * b + a) - rec (164 + 24 * k + 1 + a))) 1).1) + ((fun a => pjR ho co tk K (rec (356 + 6 * b + a) - rec (164 + 24 * k + 1 + a))) 2).1)), (5, .int ((fun a => pjR ho co tk K (rec (356 + 6 * b + a) - rec (164 + 24 * k + 1 + a))) 2).1), (0, .ref 25), (1, .ref ta), (2, .ref ba)]) dX7_choose_77 0 rfl (by decide) (by decide) rfl ?_
        refine x_goto (tgt := 56) dX7_choose_80 (by decide) ?_
        refine x_iload dX7_choose_56 0 rfl ?_
        refine x_bipush (v := 6) dX7_choose_58 (by decide) ?_
        refine x_icmp_ge (tgt := 83) dX7_choose_60 (by decide) (fun c_60 => ?_) (fun c_60 => absurd (by decide) c_60)
        refine x_iload_n dX7_choose_83 1 rfl ?_
        exact x_iret dX7_choose_84 rfl ⟨sm126, _, _, f121, a114, by rw [show spPa (fun a => pjR ho co tk K (rec (356 + 6 * b + a) - rec (164 + 24 * k + 1 + a))) = some _ from if_neg (fun q => q.elim d0 (fun q => q.elim d1 d2))]; exact ⟨by rw [Int32.zero_add], lat3 (R := (fun a => pjR ho co tk K (rec (356 + 6 * b + a) - rec (164 + 24 * k + 1 + a)))) d0 d1 d2 P5 P19 P33⟩⟩
      · refine x_iconst (v := (-1)) dX7_choose_40 (by decide) ?_
        exact x_iret dX7_choose_41 rfl ⟨sm42, _, _, g31, f37, by rw [show spPa (fun a => pjR ho co tk K (rec (356 + 6 * b + a) - rec (164 + 24 * k + 1 + a))) = none from if_pos ((fun z => Or.inr (Or.inr z)) c_37)]; exact ⟨rfl, rfl⟩⟩
    · refine x_iconst (v := (-1)) dX7_choose_40 (by decide) ?_
      exact x_iret dX7_choose_41 rfl ⟨sm28, _, _, g17, f23, by rw [show spPa (fun a => pjR ho co tk K (rec (356 + 6 * b + a) - rec (164 + 24 * k + 1 + a))) = none from if_pos ((fun z => Or.inr (Or.inl z)) c_37)]; exact ⟨rfl, rfl⟩⟩
  · refine x_iconst (v := (-1)) dX7_choose_40 (by decide) ?_
    exact x_iret dX7_choose_41 rfl ⟨sm14, _, _, g3, f9, by rw [show spPa (fun a => pjR ho co tk K (rec (356 + 6 * b + a) - rec (164 + 24 * k + 1 + a))) = none from if_pos ((Or.inl) c_37)]; exact ⟨rfl, rfl⟩⟩

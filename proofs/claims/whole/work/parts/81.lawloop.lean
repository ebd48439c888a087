/-- the law's journey -/
def JH (G : GT) : Prop := ∀ (h : List PE) (s : ST) (n i : Nat) (Q : OT → Prop), g_L G ≤ 3584 → i + 7 ≤ g_L G → LI h s n → (∀ (h1 : List PE) (s1 : ST), LI h1 s1 (n + 1) → X (NF G) G mL_law 8 184 1240 [(4, .int (nI i)), (0, .ref 0), (1, .ref 3), (2, .ref 36), (3, .ref 50)] [] h1 Q) → X (NF G) G mL_law 8 184 1074 [(4, .int (nI i)), (0, .ref 0), (1, .ref 3), (2, .ref 36), (3, .ref 50)] [] h Q
theorem lw_gt {L i : Nat} (hL : L ≤ 3584) (hi : i ≤ 3584) : Int32.ofNat L - 7 < nI i ↔ L < i + 7 := by
  rw [Int32.lt_iff_toInt_lt, show Int32.ofNat L - 7 = nI L - nI 7 from rfl, pk_sub_toInt (by omega) (by decide), nI_toInt (by omega)]
  omega

set_option maxRecDepth 100000 in
set_option maxHeartbeats 4000000 in
theorem l_law {G : GT} (hL : g_L G ≤ 3584) (hJ : JH G) : ∀ (m k : Nat) (h : List PE) (s : ST), 512 - k ≤ m → k ≤ 512 → 7 * k ≤ 3584 → LI h s k → X (NF G) G mL_law 8 184 23 [(4, .int (nI (7 * k))), (0, .ref 0), (1, .ref 3), (2, .ref 36), (3, .ref 50)] [] h (fun o => o.1 = some (.int 1) ∧ o.2.length ≤ 51 + 235 * 512 ∧ g_s o.2 ≤ 20000 + 1274 * 512) := by
  intro m
  induction m with
  | zero =>
    intro k h s hm hk h7 I
    refine x_iload dL_law_23 0 rfl ?_
    refine x_aload_n dL_law_25 1 rfl ?_
    refine x_slen dL_law_26 ?_
    refine x_bipush (v := 7) dL_law_27 (by decide) ?_
    refine x_isub dL_law_29 ?_
    refine x_icmp_gt (tgt := 1246) dL_law_30 (by decide) (fun c_30 => ?_) (fun c_30 => absurd ((lw_gt hL h7).mpr (by omega)) c_30)
    refine x_iconst (v := 1) dL_law_1246 (by decide) ?_
    exact x_zret dL_law_1247 rfl rfl ⟨rfl, by show h.length ≤ _; have := I.2.2.2.2.1; omega, by show g_s h ≤ _; have := I.2.2.2.2.2; omega⟩
  | succ m ih =>
    intro k h s hm hk h7 I
    by_cases hE : g_L G < 7 * k + 7
    · refine x_iload dL_law_23 0 rfl ?_
      refine x_aload_n dL_law_25 1 rfl ?_
      refine x_slen dL_law_26 ?_
      refine x_bipush (v := 7) dL_law_27 (by decide) ?_
      refine x_isub dL_law_29 ?_
      refine x_icmp_gt (tgt := 1246) dL_law_30 (by decide) (fun c_30 => ?_) (fun c_30 => absurd ((lw_gt hL h7).mpr hE) c_30)
      refine x_iconst (v := 1) dL_law_1246 (by decide) ?_
      exact x_zret dL_law_1247 rfl rfl ⟨rfl, by show h.length ≤ _; have := I.2.2.2.2.1; omega, by show g_s h ≤ _; have := I.2.2.2.2.2; omega⟩
    · have hi : 7 * k + 7 ≤ g_L G := by omega
      have NX : ∀ (h1 : List PE) (s1 : ST), LI h1 s1 (k + 1) → X (NF G) G mL_law 8 184 1240 [(4, .int (nI (7 * k))), (0, .ref 0), (1, .ref 3), (2, .ref 36), (3, .ref 50)] [] h1 (fun o => o.1 = some (.int 1) ∧ o.2.length ≤ 51 + 235 * 512 ∧ g_s o.2 ≤ 20000 + 1274 * 512) := by
        intro h1 s1 I1
        refine x_iinc (lv2 := [(4, .int (nI ((7 * k) + 7))), (0, .ref 0), (1, .ref 3), (2, .ref 36), (3, .ref 50)]) dL_law_1240 0 rfl (nI_add ((7 * k)) 7) (by decide) rfl ?_
        refine x_goto (tgt := 23) dL_law_1243 (by decide) ?_
        refine x_perm (lv2 := [(4, .int (nI (7 * (k + 1)))), (0, .ref 0), (1, .ref 3), (2, .ref 36), (3, .ref 50)]) [0, 1, 2, 3, 4] rfl ?_
        exact ih (k + 1) h1 s1 (by omega) (by omega) (by omega) I1
      refine x_iload dL_law_23 0 rfl ?_
      refine x_aload_n dL_law_25 1 rfl ?_
      refine x_slen dL_law_26 ?_
      refine x_bipush (v := 7) dL_law_27 (by decide) ?_
      refine x_isub dL_law_29 ?_
      refine x_icmp_gt (tgt := 1246) dL_law_30 (by decide) (fun c_30 => absurd c_30 (fun z => absurd ((lw_gt hL h7).mp z) (by omega))) (fun c_30 => ?_)
      refine x_aload_n dL_law_33 1 rfl ?_
      refine x_iload dL_law_34 0 rfl ?_
      refine x_sld dL_law_36 (vp_in_nI (by omega) (by omega)) ?_
      refine x_bipush (v := 31) dL_law_37 (by decide) ?_
      refine x_iand dL_law_39 ?_
      obtain ⟨j, hj, ej⟩ := pk_andE (g_xs G (nI (7 * k)).toNatClampNeg) (m := 31) 5 rfl
      rw [ej]
      refine x_perm [0, 1, 2, 3, 4] rfl ?_
      by_cases e0 : j = 0
      · subst e0
        change X _ _ _ _ _ 40 [(4, .int (nI (7 * k))), (0, .ref 0), (1, .ref 3), (2, .ref 36), (3, .ref 50)] [.int 0] _ _
        refine x_tableIn (off := 112) (tgt := 152) dL_law_40 (by decide) (by decide) rfl (by decide) ?_
        exact law_0 hL hi I NX
      by_cases e1 : j = 1
      · subst e1
        change X _ _ _ _ _ 40 [(4, .int (nI (7 * k))), (0, .ref 0), (1, .ref 3), (2, .ref 36), (3, .ref 50)] [.int 1] _ _
        refine x_tableIn (off := 185) (tgt := 225) dL_law_40 (by decide) (by decide) rfl (by decide) ?_
        exact law_1 hL hi I NX
      by_cases e2 : j = 2
      · subst e2
        change X _ _ _ _ _ 40 [(4, .int (nI (7 * k))), (0, .ref 0), (1, .ref 3), (2, .ref 36), (3, .ref 50)] [.int 2] _ _
        refine x_tableIn (off := 210) (tgt := 250) dL_law_40 (by decide) (by decide) rfl (by decide) ?_
        exact law_2 hL hi I NX
      by_cases e3 : j = 3
      · subst e3
        change X _ _ _ _ _ 40 [(4, .int (nI (7 * k))), (0, .ref 0), (1, .ref 3), (2, .ref 36), (3, .ref 50)] [.int 3] _ _
        refine x_tableIn (off := 235) (tgt := 275) dL_law_40 (by decide) (by decide) rfl (by decide) ?_
        exact law_3 hL hi I NX
      by_cases e4 : j = 4
      · subst e4
        change X _ _ _ _ _ 40 [(4, .int (nI (7 * k))), (0, .ref 0), (1, .ref 3), (2, .ref 36), (3, .ref 50)] [.int 4] _ _
        refine x_tableIn (off := 248) (tgt := 288) dL_law_40 (by decide) (by decide) rfl (by decide) ?_
        exact law_4 hL hi I NX
      by_cases e5 : j = 5
      · subst e5
        change X _ _ _ _ _ 40 [(4, .int (nI (7 * k))), (0, .ref 0), (1, .ref 3), (2, .ref 36), (3, .ref 50)] [.int 5] _ _
        refine x_tableIn (off := 261) (tgt := 301) dL_law_40 (by decide) (by decide) rfl (by decide) ?_
        exact law_5 hL hi I NX
      by_cases e6 : j = 6
      · subst e6
        change X _ _ _ _ _ 40 [(4, .int (nI (7 * k))), (0, .ref 0), (1, .ref 3), (2, .ref 36), (3, .ref 50)] [.int 6] _ _
        refine x_tableIn (off := 298) (tgt := 338) dL_law_40 (by decide) (by decide) rfl (by decide) ?_
        exact law_6 hL hi I NX
      by_cases e7 : j = 7
      · subst e7
        change X _ _ _ _ _ 40 [(4, .int (nI (7 * k))), (0, .ref 0), (1, .ref 3), (2, .ref 36), (3, .ref 50)] [.int 7] _ _
        refine x_tableIn (off := 359) (tgt := 399) dL_law_40 (by decide) (by decide) rfl (by decide) ?_
        exact law_7 hL hi I NX
      by_cases e8 : j = 8
      · subst e8
        change X _ _ _ _ _ 40 [(4, .int (nI (7 * k))), (0, .ref 0), (1, .ref 3), (2, .ref 36), (3, .ref 50)] [.int 8] _ _
        refine x_tableIn (off := 432) (tgt := 472) dL_law_40 (by decide) (by decide) rfl (by decide) ?_
        exact law_8 hL hi I NX
      by_cases e9 : j = 9
      · subst e9
        change X _ _ _ _ _ 40 [(4, .int (nI (7 * k))), (0, .ref 0), (1, .ref 3), (2, .ref 36), (3, .ref 50)] [.int 9] _ _
        refine x_tableIn (off := 505) (tgt := 545) dL_law_40 (by decide) (by decide) rfl (by decide) ?_
        exact law_9 hL hi I NX
      by_cases e10 : j = 10
      · subst e10
        change X _ _ _ _ _ 40 [(4, .int (nI (7 * k))), (0, .ref 0), (1, .ref 3), (2, .ref 36), (3, .ref 50)] [.int 10] _ _
        refine x_tableIn (off := 566) (tgt := 606) dL_law_40 (by decide) (by decide) rfl (by decide) ?_
        exact law_10 hL hi I NX
      by_cases e11 : j = 11
      · subst e11
        change X _ _ _ _ _ 40 [(4, .int (nI (7 * k))), (0, .ref 0), (1, .ref 3), (2, .ref 36), (3, .ref 50)] [.int 11] _ _
        refine x_tableIn (off := 603) (tgt := 643) dL_law_40 (by decide) (by decide) rfl (by decide) ?_
        exact law_11 hL hi I NX
      by_cases e12 : j = 12
      · subst e12
        change X _ _ _ _ _ 40 [(4, .int (nI (7 * k))), (0, .ref 0), (1, .ref 3), (2, .ref 36), (3, .ref 50)] [.int 12] _ _
        refine x_tableIn (off := 616) (tgt := 656) dL_law_40 (by decide) (by decide) rfl (by decide) ?_
        exact law_12 hL hi I NX
      by_cases e13 : j = 13
      · subst e13
        change X _ _ _ _ _ 40 [(4, .int (nI (7 * k))), (0, .ref 0), (1, .ref 3), (2, .ref 36), (3, .ref 50)] [.int 13] _ _
        refine x_tableIn (off := 677) (tgt := 717) dL_law_40 (by decide) (by decide) rfl (by decide) ?_
        exact law_13 hL hi I NX
      by_cases e14 : j = 14
      · subst e14
        change X _ _ _ _ _ 40 [(4, .int (nI (7 * k))), (0, .ref 0), (1, .ref 3), (2, .ref 36), (3, .ref 50)] [.int 14] _ _
        refine x_tableIn (off := 726) (tgt := 766) dL_law_40 (by decide) (by decide) rfl (by decide) ?_
        exact law_14 hL hi I NX
      by_cases e15 : j = 15
      · subst e15
        change X _ _ _ _ _ 40 [(4, .int (nI (7 * k))), (0, .ref 0), (1, .ref 3), (2, .ref 36), (3, .ref 50)] [.int 15] _ _
        refine x_tableIn (off := 813) (tgt := 853) dL_law_40 (by decide) (by decide) rfl (by decide) ?_
        exact law_15 hL hi I NX
      by_cases e16 : j = 16
      · subst e16
        change X _ _ _ _ _ 40 [(4, .int (nI (7 * k))), (0, .ref 0), (1, .ref 3), (2, .ref 36), (3, .ref 50)] [.int 16] _ _
        refine x_tableIn (off := 886) (tgt := 926) dL_law_40 (by decide) (by decide) rfl (by decide) ?_
        exact law_16 hL hi I NX
      by_cases e17 : j = 17
      · subst e17
        change X _ _ _ _ _ 40 [(4, .int (nI (7 * k))), (0, .ref 0), (1, .ref 3), (2, .ref 36), (3, .ref 50)] [.int 17] _ _
        refine x_tableIn (off := 911) (tgt := 951) dL_law_40 (by decide) (by decide) rfl (by decide) ?_
        exact law_17 hL hi I NX
      by_cases e18 : j = 18
      · subst e18
        change X _ _ _ _ _ 40 [(4, .int (nI (7 * k))), (0, .ref 0), (1, .ref 3), (2, .ref 36), (3, .ref 50)] [.int 18] _ _
        refine x_tableIn (off := 960) (tgt := 1000) dL_law_40 (by decide) (by decide) rfl (by decide) ?_
        exact law_18 hL hi I NX
      by_cases e19 : j = 19
      · subst e19
        change X _ _ _ _ _ 40 [(4, .int (nI (7 * k))), (0, .ref 0), (1, .ref 3), (2, .ref 36), (3, .ref 50)] [.int 19] _ _
        refine x_tableIn (off := 973) (tgt := 1013) dL_law_40 (by decide) (by decide) rfl (by decide) ?_
        exact law_19 hL hi I NX
      by_cases e20 : j = 20
      · subst e20
        change X _ _ _ _ _ 40 [(4, .int (nI (7 * k))), (0, .ref 0), (1, .ref 3), (2, .ref 36), (3, .ref 50)] [.int 20] _ _
        refine x_tableIn (off := 1034) (tgt := 1074) dL_law_40 (by decide) (by decide) rfl (by decide) ?_
        exact hJ h s k (7 * k) _ hL hi I NX
      by_cases e21 : j = 21
      · subst e21
        change X _ _ _ _ _ 40 [(4, .int (nI (7 * k))), (0, .ref 0), (1, .ref 3), (2, .ref 36), (3, .ref 50)] [.int 21] _ _
        refine x_tableIn (off := 1101) (tgt := 1141) dL_law_40 (by decide) (by decide) rfl (by decide) ?_
        exact law_21 hL hi I NX
      by_cases e22 : j = 22
      · subst e22
        change X _ _ _ _ _ 40 [(4, .int (nI (7 * k))), (0, .ref 0), (1, .ref 3), (2, .ref 36), (3, .ref 50)] [.int 22] _ _
        refine x_tableIn (off := 1138) (tgt := 1178) dL_law_40 (by decide) (by decide) rfl (by decide) ?_
        exact law_22 hL hi I NX
      by_cases e23 : j = 23
      · subst e23
        change X _ _ _ _ _ 40 [(4, .int (nI (7 * k))), (0, .ref 0), (1, .ref 3), (2, .ref 36), (3, .ref 50)] [.int 23] _ _
        refine x_tableIn (off := 1175) (tgt := 1215) dL_law_40 (by decide) (by decide) rfl (by decide) ?_
        exact law_23 hL hi I NX
      refine x_tableOut (tgt := 1240) dL_law_40 (by rw [nI_toInt (by omega)]; omega) (by decide) ?_
      obtain ⟨hc, hM, ws, hout, l1, l2⟩ := id I
      exact NX h s ⟨hc, hM, ws, hout, by omega, by omega⟩

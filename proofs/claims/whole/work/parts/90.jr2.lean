theorem c_thrownG {G : GT} {h : List PE} {v : Int32} {fs : List Value} (f : h[36]? = some (cO 12 (.int v :: fs))) : CT G mX12_thrown 0 0 [.ref 36] h (fun o => o = (some (.int v), h)) := by
  show X (NF G) G mX12_thrown 0 0 0 [(0, .ref 36)] [] h _
  refine x_aload_n dX12_thrown_0 0 rfl ?_
  refine x_get (v := .int v) dX12_thrown_1 fX12_55 f (by decide) rfl ?_
  exact x_iret dX12_thrown_4 rfl rfl

set_option maxRecDepth 100000 in
set_option maxHeartbeats 4000000 in
theorem jh_of {G : GT} (hJC : JC G) : JH G := by
  intro h s n i Q hL hi I KX
  obtain ⟨hc, hM, ws, ⟨out, ho⟩, l1, l2⟩ := id I
  refine x_aload_n dL_law_1074 2 rfl ?_
  refine x_aload_n dL_law_1075 1 rfl ?_
  refine x_iload dL_law_1076 0 rfl ?_
  refine x_iconst (v := 1) dL_law_1078 (by decide) ?_
  refine x_iaddN (a := i) (b := 1) dL_law_1079 ?_
  refine x_sld dL_law_1080 (vp_in_nI (by omega) (by omega)) ?_
  refine x_aload_n dL_law_1081 1 rfl ?_
  refine x_iload dL_law_1082 0 rfl ?_
  refine x_iconst (v := 2) dL_law_1084 (by decide) ?_
  refine x_iaddN (a := i) (b := 2) dL_law_1085 ?_
  refine x_sld dL_law_1086 (vp_in_nI (by omega) (by omega)) ?_
  refine x_aload_n dL_law_1087 4 rfl ?_
  refine hJC h s (g_xs G (nI (i + 1)).toNatClampNeg) (g_xs G (nI (i + 2)).toNatClampNeg) out _ _ hc ws ho (fun ok h1 c1 fr o1 => ?_) (fun nk h1 c1 fr o1 => ?_)
  · have hM1 := hM.frj fr
    obtain ⟨fs1, g36⟩ := hM1.cell
    refine x_istore (lv2 := [(5, .int 0), (4, .int (nI i)), (0, .ref 0), (1, .ref 3), (2, .ref 36), (3, .ref 50)]) dL_law_1091 (by decide) rfl ?_
    refine x_aload_n dL_law_1093 4 rfl ?_
    refine x_aload_n dL_law_1094 2 rfl ?_
    refine x_iload dL_law_1095 1 rfl ?_
    refine x_iconst (v := 1) dL_law_1097 (by decide) ?_
    refine x_iaddN (a := i) (b := 1) dL_law_1098 ?_
    refine x_sld dL_law_1099 (vp_in_nI (by omega) (by omega)) ?_
    refine x_aload_n dL_law_1100 2 rfl ?_
    refine x_iload dL_law_1101 1 rfl ?_
    refine x_iconst (v := 2) dL_law_1103 (by decide) ?_
    refine x_iaddN (a := i) (b := 2) dL_law_1104 ?_
    refine x_sld dL_law_1105 (vp_in_nI (by omega) (by omega)) ?_
    refine x_callV (rf' := 3) (rl' := 65) [.int (g_xs G (((nI (i + 1))).toNatClampNeg)), .int (g_xs G (((nI (i + 2))).toNatClampNeg))] [] dL_law_1106 vL_112 Y_X12_journey g36 (by decide) rfl rfl (Nat.le_of_ble_eq_true rfl) (Nat.le_of_ble_eq_true rfl) (by decide) (by decide) ((m_journey3 hM1 ws).1 ok) (fun r h2 e1 => ?_)
    obtain ⟨e0, hM2, ⟨fs2, p36⟩, sm2⟩ := e1
    cases e0
    have sm2 : Sm [36, 41, 42] h1 h2 := sm2
    have o2 := sm2.at o1 (by decide)
    refine x_lstore (lv2 := [(6, .long (spJr (sR s (g_xs G (nI (i + 2)).toNatClampNeg)) (sC s (g_xs G (nI (i + 2)).toNatClampNeg)) (g_xs G (nI (i + 1)).toNatClampNeg) (s_tn s) (s_tv s))), (5, .int 0), (4, .int (nI i)), (0, .ref 0), (1, .ref 3), (2, .ref 36), (3, .ref 50)]) dL_law_1109 (by decide) rfl ?_
    refine x_aload_n dL_law_1111 5 rfl ?_
    refine x_callV (rf' := 0) (rl' := 0) [] [] dL_law_1112 vL_113 Y_X12_thrown p36 (by decide) rfl rfl (Nat.le_of_ble_eq_true rfl) (Nat.le_of_ble_eq_true rfl) (by decide) (by decide) (c_thrownG p36) (fun _ _ e101 => ?_)
    cases e101
    refine x_iload dL_law_1115 1 rfl ?_
    refine x_icmp_eq (tgt := 1122) dL_law_1117 (by decide) (fun c_1117 => ?_) (fun c_1117 => absurd (by decide) c_1117)
    refine x_iload dL_law_1122 1 rfl ?_
    refine x_if_ne (tgt := 1138) dL_law_1124 (by decide) (fun c_1124 => absurd (by decide) c_1124) (fun c_1124 => ?_)
    refine x_aload_n dL_law_1127 6 rfl ?_
    refine x_iconst (v := 0) dL_law_1128 (by decide) ?_
    refine x_laldN (i := 0) dL_law_1129 o2 (by decide) (by omega) (by decide) ?_
    refine x_lload dL_law_1130 0 rfl ?_
    refine x_lif_eq (tgt := 1138) dL_law_1132 dL_law_1133 (by decide) (fun c_1133 => ?_) (fun c_1133 => absurd pk_uLs c_1133)
    refine x_goto (tgt := 1240) dL_law_1138 (by decide) ?_
    refine x_perm [2, 3, 4, 5, 6] rfl ?_
    exact KX h2 (s_setTn s 0) (I.stepJ fr c1 o1 sm2 hM2 (ws_tn ws (Nat.zero_le _)))
  · have hM1 := hM.frj fr
    obtain ⟨fs1, g36⟩ := hM1.cell
    refine x_istore (lv2 := [(5, .int 1), (4, .int (nI i)), (0, .ref 0), (1, .ref 3), (2, .ref 36), (3, .ref 50)]) dL_law_1091 (by decide) rfl ?_
    refine x_aload_n dL_law_1093 4 rfl ?_
    refine x_aload_n dL_law_1094 2 rfl ?_
    refine x_iload dL_law_1095 1 rfl ?_
    refine x_iconst (v := 1) dL_law_1097 (by decide) ?_
    refine x_iaddN (a := i) (b := 1) dL_law_1098 ?_
    refine x_sld dL_law_1099 (vp_in_nI (by omega) (by omega)) ?_
    refine x_aload_n dL_law_1100 2 rfl ?_
    refine x_iload dL_law_1101 1 rfl ?_
    refine x_iconst (v := 2) dL_law_1103 (by decide) ?_
    refine x_iaddN (a := i) (b := 2) dL_law_1104 ?_
    refine x_sld dL_law_1105 (vp_in_nI (by omega) (by omega)) ?_
    refine x_callV (rf' := 3) (rl' := 65) [.int (g_xs G (((nI (i + 1))).toNatClampNeg)), .int (g_xs G (((nI (i + 2))).toNatClampNeg))] [] dL_law_1106 vL_112 Y_X12_journey g36 (by decide) rfl rfl (Nat.le_of_ble_eq_true rfl) (Nat.le_of_ble_eq_true rfl) (by decide) (by decide) ((m_journey3 hM1 ws).2 nk) (fun r h2 e1 => ?_)
    obtain ⟨e0, hM2, ⟨fs2, p36⟩, sm2⟩ := e1
    cases e0
    have sm2 : Sm [36, 41, 42] h1 h2 := sm2
    have o2 := sm2.at o1 (by decide)
    refine x_lstore (lv2 := [(6, .long (spJr (sR s (g_xs G (nI (i + 2)).toNatClampNeg)) (sC s (g_xs G (nI (i + 2)).toNatClampNeg)) (g_xs G (nI (i + 1)).toNatClampNeg) (s_tn s) (s_tv s))), (5, .int 1), (4, .int (nI i)), (0, .ref 0), (1, .ref 3), (2, .ref 36), (3, .ref 50)]) dL_law_1109 (by decide) rfl ?_
    refine x_aload_n dL_law_1111 5 rfl ?_
    refine x_callV (rf' := 0) (rl' := 0) [] [] dL_law_1112 vL_113 Y_X12_thrown p36 (by decide) rfl rfl (Nat.le_of_ble_eq_true rfl) (Nat.le_of_ble_eq_true rfl) (by decide) (by decide) (c_thrownG p36) (fun _ _ e102 => ?_)
    cases e102
    refine x_iload dL_law_1115 1 rfl ?_
    refine x_icmp_eq (tgt := 1122) dL_law_1117 (by decide) (fun c_1117 => ?_) (fun c_1117 => absurd (by decide) c_1117)
    refine x_iload dL_law_1122 1 rfl ?_
    refine x_if_ne (tgt := 1138) dL_law_1124 (by decide) (fun c_1124 => ?_) (fun c_1124 => absurd c_1124 (by decide))
    refine x_goto (tgt := 1240) dL_law_1138 (by decide) ?_
    refine x_perm [2, 3, 4, 5, 6] rfl ?_
    exact KX h2 s (I.stepJ fr c1 o1 sm2 hM2 ws)

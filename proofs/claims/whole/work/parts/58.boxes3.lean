def s_setBs (s : ST) (b : Int32) : ST := (s.1, s.2.1, s.2.2.1, s.2.2.2.1, s.2.2.2.2.1, s.2.2.2.2.2.1, s.2.2.2.2.2.2.1, s.2.2.2.2.2.2.2.1, s.2.2.2.2.2.2.2.2.1, s.2.2.2.2.2.2.2.2.2.1, b)
/-- the sizes a, b, c of a THING along the rooms of a BOX -/
def U3 (rec : Nat → Int32) (mg : Int32) (k b x y z : Nat) : Bool := FTs rec mg k b x 0 && FTs rec mg k b y 1 && FTs rec mg k b z 2
theorem bool9 : ∀ (a0 a1 a2 b0 b1 b2 c0 c1 c2 : Bool), (a0 && b1 && c2 || a0 && b2 && c1 || a1 && b0 && c2 || a1 && b2 && c0 || a2 && b0 && c1 || a2 && b1 && c0) = (a0 && b1 && c2 || a0 && c1 && b2 || b0 && c1 && a2 || b0 && a1 && c2 || c0 && a1 && b2 || c0 && b1 && a2) := by decide
theorem GI_U {rec : Nat → Int32} {mg : Int32} {k b : Nat} : GI rec mg k b = (U3 rec mg k b 0 1 2 || U3 rec mg k b 0 2 1 || U3 rec mg k b 1 2 0 || U3 rec mg k b 1 0 2 || U3 rec mg k b 2 0 1 || U3 rec mg k b 2 1 0) := bool9 _ _ _ _ _ _ _ _ _

set_option maxRecDepth 100000 in
set_option maxHeartbeats 4000000 in
theorem c_fits0 {G : GT} {h : List PE} {thr tpd tdy bks siz too frm knd num sgn flt plc tld lst pfo thk are brk ipd bst : Int32} {wrd : Int64} {bk rec : Nat → Int32} {nw k b : Nat} {mg : Int32} (f36 : h[36]? = some (cO 12 (MO thr tpd tdy bks siz too frm knd num sgn flt plc wrd tld ((nI nw)) lst pfo thk are brk ipd bst))) (f38 : h[38]? = some (cI 10164 bk)) (RH : nw + 484 ≤ 10164 ∧ ∀ j, j < 484 → bk (nw + j) = rec j) (hk : k < 8) (hb : b < 8)  : CT G mX12_fits 1 21 [.ref 36, .int (nI k), .int (nI b), .int mg, .int (nI 0)] h (fun o => o = (some (.int (if U3 rec mg k b 0 1 2 = true then 1 else 0)), h)) := by
  show X (NF G) G mX12_fits 1 21 0 [(0, .ref 36), (1, .int (nI k)), (2, .int (nI b)), (3, .int mg), (4, .int (nI 0))] [] h _
  refine x_iload dX12_fits_0 4 rfl ?_
  refine x_iconst (v := 2) dX12_fits_2 (by decide) ?_
  refine x_idivN (a := 0) (b := 2) (by omega) (by omega) (by omega) dX12_fits_3 ?_
  refine x_istore (lv2 := [(5, .int (nI (0 / 2))), (0, .ref 36), (1, .int (nI k)), (2, .int (nI b)), (3, .int mg), (4, .int (nI 0))]) dX12_fits_4 (by decide) rfl ?_
  refine x_iload dX12_fits_6 5 rfl ?_
  refine x_iconst (v := 2) dX12_fits_8 (by decide) ?_
  refine x_iremN (a := 0) (b := 2) (by omega) (by omega) (by omega) dX12_fits_9 ?_
  refine x_if_neN (tgt := 22) (a := (0 % 2)) (by omega) dX12_fits_10 (by decide) (fun c_10 => absurd (by decide) c_10) (fun c_10 => ?_)
  refine x_iload dX12_fits_13 0 rfl ?_
  refine x_iconst (v := 1) dX12_fits_15 (by decide) ?_
  refine x_iaddN (a := (0 / 2)) (b := 1) dX12_fits_16 ?_
  refine x_iconst (v := 3) dX12_fits_17 (by decide) ?_
  refine x_iremN (a := ((0 / 2) + 1)) (b := 3) (by omega) (by omega) (by omega) dX12_fits_18 ?_
  refine x_goto (tgt := 28) dX12_fits_19 (by decide) ?_
  refine x_istore (lv2 := [(6, .int (nI (((0 / 2) + 1) % 3))), (5, .int (nI (0 / 2))), (0, .ref 36), (1, .int (nI k)), (2, .int (nI b)), (3, .int mg), (4, .int (nI 0))]) dX12_fits_28 (by decide) rfl ?_
  refine x_iconst (v := 3) dX12_fits_30 (by decide) ?_
  refine x_iload dX12_fits_31 1 rfl ?_
  refine x_isubN (a := 3) (b := (0 / 2)) (by omega) dX12_fits_33 ?_
  refine x_iload dX12_fits_34 0 rfl ?_
  refine x_isubN (a := (3 - (0 / 2))) (b := (((0 / 2) + 1) % 3)) (by omega) dX12_fits_36 ?_
  refine x_istore (lv2 := [(7, .int (nI ((3 - (0 / 2)) - (((0 / 2) + 1) % 3)))), (6, .int (nI (((0 / 2) + 1) % 3))), (5, .int (nI (0 / 2))), (0, .ref 36), (1, .int (nI k)), (2, .int (nI b)), (3, .int mg), (4, .int (nI 0))]) dX12_fits_37 (by decide) rfl ?_
  refine x_sipush (v := 356) dX12_fits_39 (by decide) ?_
  refine x_bipush (v := 6) dX12_fits_42 (by decide) ?_
  refine x_iload_n dX12_fits_44 5 rfl ?_
  refine x_imulN (a := 6) (b := b) dX12_fits_45 ?_
  refine x_iaddN (a := 356) (b := (6 * b)) dX12_fits_46 ?_
  refine x_istore (lv2 := [(8, .int (nI (356 + (6 * b)))), (7, .int (nI ((3 - (0 / 2)) - (((0 / 2) + 1) % 3)))), (6, .int (nI (((0 / 2) + 1) % 3))), (5, .int (nI (0 / 2))), (0, .ref 36), (1, .int (nI k)), (2, .int (nI b)), (3, .int mg), (4, .int (nI 0))]) dX12_fits_47 (by decide) rfl ?_
  refine x_sipush (v := 164) dX12_fits_49 (by decide) ?_
  refine x_bipush (v := 24) dX12_fits_52 (by decide) ?_
  refine x_iload_n dX12_fits_54 5 rfl ?_
  refine x_imulN (a := 24) (b := k) dX12_fits_55 ?_
  refine x_iaddN (a := 164) (b := (24 * k)) dX12_fits_56 ?_
  refine x_iconst (v := 1) dX12_fits_57 (by decide) ?_
  refine x_iaddN (a := (164 + (24 * k))) (b := 1) dX12_fits_58 ?_
  refine x_istore (lv2 := [(9, .int (nI ((164 + (24 * k)) + 1))), (8, .int (nI (356 + (6 * b)))), (7, .int (nI ((3 - (0 / 2)) - (((0 / 2) + 1) % 3)))), (6, .int (nI (((0 / 2) + 1) % 3))), (5, .int (nI (0 / 2))), (0, .ref 36), (1, .int (nI k)), (2, .int (nI b)), (3, .int mg), (4, .int (nI 0))]) dX12_fits_59 (by decide) rfl ?_
  refine x_iconst (v := 2) dX12_fits_61 (by decide) ?_
  refine x_iload_n dX12_fits_62 8 rfl ?_
  refine x_imul dX12_fits_63 ?_
  refine x_istore (lv2 := [(10, .int (2 * mg)), (9, .int (nI ((164 + (24 * k)) + 1))), (8, .int (nI (356 + (6 * b)))), (7, .int (nI ((3 - (0 / 2)) - (((0 / 2) + 1) % 3)))), (6, .int (nI (((0 / 2) + 1) % 3))), (5, .int (nI (0 / 2))), (0, .ref 36), (1, .int (nI k)), (2, .int (nI b)), (3, .int mg), (4, .int (nI 0))]) dX12_fits_64 (by decide) rfl ?_
  refine x_aload_n dX12_fits_66 6 rfl ?_
  refine x_iload dX12_fits_67 1 rfl ?_
  refine x_iload dX12_fits_69 5 rfl ?_
  refine x_iaddN (a := ((164 + (24 * k)) + 1)) (b := (0 / 2)) dX12_fits_71 ?_
  refine x_callV (rf' := 0) (rl' := 0) [.int (nI (((164 + (24 * k)) + 1) + (0 / 2)))] [] dX12_fits_72 vX12_217 Y_X12_of f36 (by decide) rfl rfl (Nat.le_of_ble_eq_true rfl) (Nat.le_of_ble_eq_true rfl) (by decide) (by decide) (c_ofR (k := (((164 + (24 * k)) + 1) + (0 / 2))) f36 f38 RH (by omega)) (fun _ _ e101 => ?_)
  cases e101
  refine x_iload dX12_fits_75 0 rfl ?_
  refine x_iadd dX12_fits_77 ?_
  refine x_aload_n dX12_fits_78 6 rfl ?_
  refine x_iload dX12_fits_79 2 rfl ?_
  refine x_callV (rf' := 0) (rl' := 0) [.int (nI (356 + (6 * b)))] [.int ((rec ((((164 + (24 * k)) + 1) + (0 / 2)))) + (2 * mg))] dX12_fits_81 vX12_217 Y_X12_of f36 (by decide) rfl rfl (Nat.le_of_ble_eq_true rfl) (Nat.le_of_ble_eq_true rfl) (by decide) (by decide) (c_ofR (k := (356 + (6 * b))) f36 f38 RH (by omega)) (fun _ _ e102 => ?_)
  cases e102
  refine x_icmp_gt (tgt := 137) dX12_fits_84 (by decide) (fun c_84 => ?_) (fun c_84 => ?_)
  · refine x_iconst (v := 0) dX12_fits_137 (by decide) ?_
    exact x_zret dX12_fits_138 rfl rfl (by unfold U3; simp [show FTs rec mg k b 0 0 = false from decide_eq_false (Int32.not_le.mpr c_84)])
  · refine x_aload_n dX12_fits_87 6 rfl ?_
    refine x_iload dX12_fits_88 1 rfl ?_
    refine x_iload dX12_fits_90 4 rfl ?_
    refine x_iaddN (a := ((164 + (24 * k)) + 1)) (b := (((0 / 2) + 1) % 3)) dX12_fits_92 ?_
    refine x_callV (rf' := 0) (rl' := 0) [.int (nI (((164 + (24 * k)) + 1) + (((0 / 2) + 1) % 3)))] [] dX12_fits_93 vX12_217 Y_X12_of f36 (by decide) rfl rfl (Nat.le_of_ble_eq_true rfl) (Nat.le_of_ble_eq_true rfl) (by decide) (by decide) (c_ofR (k := (((164 + (24 * k)) + 1) + (((0 / 2) + 1) % 3))) f36 f38 RH (by omega)) (fun _ _ e103 => ?_)
    cases e103
    refine x_iload dX12_fits_96 0 rfl ?_
    refine x_iadd dX12_fits_98 ?_
    refine x_aload_n dX12_fits_99 6 rfl ?_
    refine x_iload dX12_fits_100 2 rfl ?_
    refine x_iconst (v := 1) dX12_fits_102 (by decide) ?_
    refine x_iaddN (a := (356 + (6 * b))) (b := 1) dX12_fits_103 ?_
    refine x_callV (rf' := 0) (rl' := 0) [.int (nI ((356 + (6 * b)) + 1))] [.int ((rec ((((164 + (24 * k)) + 1) + (((0 / 2) + 1) % 3)))) + (2 * mg))] dX12_fits_104 vX12_217 Y_X12_of f36 (by decide) rfl rfl (Nat.le_of_ble_eq_true rfl) (Nat.le_of_ble_eq_true rfl) (by decide) (by decide) (c_ofR (k := ((356 + (6 * b)) + 1)) f36 f38 RH (by omega)) (fun _ _ e104 => ?_)
    cases e104
    refine x_icmp_gt (tgt := 137) dX12_fits_107 (by decide) (fun c_107 => ?_) (fun c_107 => ?_)
    · refine x_iconst (v := 0) dX12_fits_137 (by decide) ?_
      exact x_zret dX12_fits_138 rfl rfl (by unfold U3; simp [show FTs rec mg k b 0 0 = true from decide_eq_true (Int32.not_lt.mp c_84), show FTs rec mg k b 1 1 = false from decide_eq_false (Int32.not_le.mpr c_107)])
    · refine x_aload_n dX12_fits_110 6 rfl ?_
      refine x_iload dX12_fits_111 1 rfl ?_
      refine x_iload dX12_fits_113 3 rfl ?_
      refine x_iaddN (a := ((164 + (24 * k)) + 1)) (b := ((3 - (0 / 2)) - (((0 / 2) + 1) % 3))) dX12_fits_115 ?_
      refine x_callV (rf' := 0) (rl' := 0) [.int (nI (((164 + (24 * k)) + 1) + ((3 - (0 / 2)) - (((0 / 2) + 1) % 3))))] [] dX12_fits_116 vX12_217 Y_X12_of f36 (by decide) rfl rfl (Nat.le_of_ble_eq_true rfl) (Nat.le_of_ble_eq_true rfl) (by decide) (by decide) (c_ofR (k := (((164 + (24 * k)) + 1) + ((3 - (0 / 2)) - (((0 / 2) + 1) % 3)))) f36 f38 RH (by omega)) (fun _ _ e105 => ?_)
      cases e105
      refine x_iload dX12_fits_119 0 rfl ?_
      refine x_iadd dX12_fits_121 ?_
      refine x_aload_n dX12_fits_122 6 rfl ?_
      refine x_iload dX12_fits_123 2 rfl ?_
      refine x_iconst (v := 2) dX12_fits_125 (by decide) ?_
      refine x_iaddN (a := (356 + (6 * b))) (b := 2) dX12_fits_126 ?_
      refine x_callV (rf' := 0) (rl' := 0) [.int (nI ((356 + (6 * b)) + 2))] [.int ((rec ((((164 + (24 * k)) + 1) + ((3 - (0 / 2)) - (((0 / 2) + 1) % 3))))) + (2 * mg))] dX12_fits_127 vX12_217 Y_X12_of f36 (by decide) rfl rfl (Nat.le_of_ble_eq_true rfl) (Nat.le_of_ble_eq_true rfl) (by decide) (by decide) (c_ofR (k := ((356 + (6 * b)) + 2)) f36 f38 RH (by omega)) (fun _ _ e106 => ?_)
      cases e106
      refine x_icmp_gt (tgt := 137) dX12_fits_130 (by decide) (fun c_130 => ?_) (fun c_130 => ?_)
      · refine x_iconst (v := 0) dX12_fits_137 (by decide) ?_
        exact x_zret dX12_fits_138 rfl rfl (by unfold U3; simp [show FTs rec mg k b 0 0 = true from decide_eq_true (Int32.not_lt.mp c_84), show FTs rec mg k b 1 1 = true from decide_eq_true (Int32.not_lt.mp c_107), show FTs rec mg k b 2 2 = false from decide_eq_false (Int32.not_le.mpr c_130)])
      · refine x_iconst (v := 1) dX12_fits_133 (by decide) ?_
        refine x_goto (tgt := 138) dX12_fits_134 (by decide) ?_
        exact x_zret dX12_fits_138 rfl rfl (by unfold U3; simp [show FTs rec mg k b 0 0 = true from decide_eq_true (Int32.not_lt.mp c_84), show FTs rec mg k b 1 1 = true from decide_eq_true (Int32.not_lt.mp c_107), show FTs rec mg k b 2 2 = true from decide_eq_true (Int32.not_lt.mp c_130)])

set_option maxRecDepth 100000 in
set_option maxHeartbeats 4000000 in
theorem c_fits1 {G : GT} {h : List PE} {thr tpd tdy bks siz too frm knd num sgn flt plc tld lst pfo thk are brk ipd bst : Int32} {wrd : Int64} {bk rec : Nat → Int32} {nw k b : Nat} {mg : Int32} (f36 : h[36]? = some (cO 12 (MO thr tpd tdy bks siz too frm knd num sgn flt plc wrd tld ((nI nw)) lst pfo thk are brk ipd bst))) (f38 : h[38]? = some (cI 10164 bk)) (RH : nw + 484 ≤ 10164 ∧ ∀ j, j < 484 → bk (nw + j) = rec j) (hk : k < 8) (hb : b < 8)  : CT G mX12_fits 1 21 [.ref 36, .int (nI k), .int (nI b), .int mg, .int (nI 1)] h (fun o => o = (some (.int (if U3 rec mg k b 0 2 1 = true then 1 else 0)), h)) := by
  show X (NF G) G mX12_fits 1 21 0 [(0, .ref 36), (1, .int (nI k)), (2, .int (nI b)), (3, .int mg), (4, .int (nI 1))] [] h _
  refine x_iload dX12_fits_0 4 rfl ?_
  refine x_iconst (v := 2) dX12_fits_2 (by decide) ?_
  refine x_idivN (a := 1) (b := 2) (by omega) (by omega) (by omega) dX12_fits_3 ?_
  refine x_istore (lv2 := [(5, .int (nI (1 / 2))), (0, .ref 36), (1, .int (nI k)), (2, .int (nI b)), (3, .int mg), (4, .int (nI 1))]) dX12_fits_4 (by decide) rfl ?_
  refine x_iload dX12_fits_6 5 rfl ?_
  refine x_iconst (v := 2) dX12_fits_8 (by decide) ?_
  refine x_iremN (a := 1) (b := 2) (by omega) (by omega) (by omega) dX12_fits_9 ?_
  refine x_if_neN (tgt := 22) (a := (1 % 2)) (by omega) dX12_fits_10 (by decide) (fun c_10 => ?_) (fun c_10 => absurd c_10 (by decide))
  refine x_iload dX12_fits_22 0 rfl ?_
  refine x_iconst (v := 2) dX12_fits_24 (by decide) ?_
  refine x_iaddN (a := (1 / 2)) (b := 2) dX12_fits_25 ?_
  refine x_iconst (v := 3) dX12_fits_26 (by decide) ?_
  refine x_iremN (a := ((1 / 2) + 2)) (b := 3) (by omega) (by omega) (by omega) dX12_fits_27 ?_
  refine x_istore (lv2 := [(6, .int (nI (((1 / 2) + 2) % 3))), (5, .int (nI (1 / 2))), (0, .ref 36), (1, .int (nI k)), (2, .int (nI b)), (3, .int mg), (4, .int (nI 1))]) dX12_fits_28 (by decide) rfl ?_
  refine x_iconst (v := 3) dX12_fits_30 (by decide) ?_
  refine x_iload dX12_fits_31 1 rfl ?_
  refine x_isubN (a := 3) (b := (1 / 2)) (by omega) dX12_fits_33 ?_
  refine x_iload dX12_fits_34 0 rfl ?_
  refine x_isubN (a := (3 - (1 / 2))) (b := (((1 / 2) + 2) % 3)) (by omega) dX12_fits_36 ?_
  refine x_istore (lv2 := [(7, .int (nI ((3 - (1 / 2)) - (((1 / 2) + 2) % 3)))), (6, .int (nI (((1 / 2) + 2) % 3))), (5, .int (nI (1 / 2))), (0, .ref 36), (1, .int (nI k)), (2, .int (nI b)), (3, .int mg), (4, .int (nI 1))]) dX12_fits_37 (by decide) rfl ?_
  refine x_sipush (v := 356) dX12_fits_39 (by decide) ?_
  refine x_bipush (v := 6) dX12_fits_42 (by decide) ?_
  refine x_iload_n dX12_fits_44 5 rfl ?_
  refine x_imulN (a := 6) (b := b) dX12_fits_45 ?_
  refine x_iaddN (a := 356) (b := (6 * b)) dX12_fits_46 ?_
  refine x_istore (lv2 := [(8, .int (nI (356 + (6 * b)))), (7, .int (nI ((3 - (1 / 2)) - (((1 / 2) + 2) % 3)))), (6, .int (nI (((1 / 2) + 2) % 3))), (5, .int (nI (1 / 2))), (0, .ref 36), (1, .int (nI k)), (2, .int (nI b)), (3, .int mg), (4, .int (nI 1))]) dX12_fits_47 (by decide) rfl ?_
  refine x_sipush (v := 164) dX12_fits_49 (by decide) ?_
  refine x_bipush (v := 24) dX12_fits_52 (by decide) ?_
  refine x_iload_n dX12_fits_54 5 rfl ?_
  refine x_imulN (a := 24) (b := k) dX12_fits_55 ?_
  refine x_iaddN (a := 164) (b := (24 * k)) dX12_fits_56 ?_
  refine x_iconst (v := 1) dX12_fits_57 (by decide) ?_
  refine x_iaddN (a := (164 + (24 * k))) (b := 1) dX12_fits_58 ?_
  refine x_istore (lv2 := [(9, .int (nI ((164 + (24 * k)) + 1))), (8, .int (nI (356 + (6 * b)))), (7, .int (nI ((3 - (1 / 2)) - (((1 / 2) + 2) % 3)))), (6, .int (nI (((1 / 2) + 2) % 3))), (5, .int (nI (1 / 2))), (0, .ref 36), (1, .int (nI k)), (2, .int (nI b)), (3, .int mg), (4, .int (nI 1))]) dX12_fits_59 (by decide) rfl ?_
  refine x_iconst (v := 2) dX12_fits_61 (by decide) ?_
  refine x_iload_n dX12_fits_62 8 rfl ?_
  refine x_imul dX12_fits_63 ?_
  refine x_istore (lv2 := [(10, .int (2 * mg)), (9, .int (nI ((164 + (24 * k)) + 1))), (8, .int (nI (356 + (6 * b)))), (7, .int (nI ((3 - (1 / 2)) - (((1 / 2) + 2) % 3)))), (6, .int (nI (((1 / 2) + 2) % 3))), (5, .int (nI (1 / 2))), (0, .ref 36), (1, .int (nI k)), (2, .int (nI b)), (3, .int mg), (4, .int (nI 1))]) dX12_fits_64 (by decide) rfl ?_
  refine x_aload_n dX12_fits_66 6 rfl ?_
  refine x_iload dX12_fits_67 1 rfl ?_
  refine x_iload dX12_fits_69 5 rfl ?_
  refine x_iaddN (a := ((164 + (24 * k)) + 1)) (b := (1 / 2)) dX12_fits_71 ?_
  refine x_callV (rf' := 0) (rl' := 0) [.int (nI (((164 + (24 * k)) + 1) + (1 / 2)))] [] dX12_fits_72 vX12_217 Y_X12_of f36 (by decide) rfl rfl (Nat.le_of_ble_eq_true rfl) (Nat.le_of_ble_eq_true rfl) (by decide) (by decide) (c_ofR (k := (((164 + (24 * k)) + 1) + (1 / 2))) f36 f38 RH (by omega)) (fun _ _ e101 => ?_)
  cases e101
  refine x_iload dX12_fits_75 0 rfl ?_
  refine x_iadd dX12_fits_77 ?_
  refine x_aload_n dX12_fits_78 6 rfl ?_
  refine x_iload dX12_fits_79 2 rfl ?_
  refine x_callV (rf' := 0) (rl' := 0) [.int (nI (356 + (6 * b)))] [.int ((rec ((((164 + (24 * k)) + 1) + (1 / 2)))) + (2 * mg))] dX12_fits_81 vX12_217 Y_X12_of f36 (by decide) rfl rfl (Nat.le_of_ble_eq_true rfl) (Nat.le_of_ble_eq_true rfl) (by decide) (by decide) (c_ofR (k := (356 + (6 * b))) f36 f38 RH (by omega)) (fun _ _ e102 => ?_)
  cases e102
  refine x_icmp_gt (tgt := 137) dX12_fits_84 (by decide) (fun c_84 => ?_) (fun c_84 => ?_)
  · refine x_iconst (v := 0) dX12_fits_137 (by decide) ?_
    exact x_zret dX12_fits_138 rfl rfl (by unfold U3; simp [show FTs rec mg k b 0 0 = false from decide_eq_false (Int32.not_le.mpr c_84)])
  · refine x_aload_n dX12_fits_87 6 rfl ?_
    refine x_iload dX12_fits_88 1 rfl ?_
    refine x_iload dX12_fits_90 4 rfl ?_
    refine x_iaddN (a := ((164 + (24 * k)) + 1)) (b := (((1 / 2) + 2) % 3)) dX12_fits_92 ?_
    refine x_callV (rf' := 0) (rl' := 0) [.int (nI (((164 + (24 * k)) + 1) + (((1 / 2) + 2) % 3)))] [] dX12_fits_93 vX12_217 Y_X12_of f36 (by decide) rfl rfl (Nat.le_of_ble_eq_true rfl) (Nat.le_of_ble_eq_true rfl) (by decide) (by decide) (c_ofR (k := (((164 + (24 * k)) + 1) + (((1 / 2) + 2) % 3))) f36 f38 RH (by omega)) (fun _ _ e103 => ?_)
    cases e103
    refine x_iload dX12_fits_96 0 rfl ?_
    refine x_iadd dX12_fits_98 ?_
    refine x_aload_n dX12_fits_99 6 rfl ?_
    refine x_iload dX12_fits_100 2 rfl ?_
    refine x_iconst (v := 1) dX12_fits_102 (by decide) ?_
    refine x_iaddN (a := (356 + (6 * b))) (b := 1) dX12_fits_103 ?_
    refine x_callV (rf' := 0) (rl' := 0) [.int (nI ((356 + (6 * b)) + 1))] [.int ((rec ((((164 + (24 * k)) + 1) + (((1 / 2) + 2) % 3)))) + (2 * mg))] dX12_fits_104 vX12_217 Y_X12_of f36 (by decide) rfl rfl (Nat.le_of_ble_eq_true rfl) (Nat.le_of_ble_eq_true rfl) (by decide) (by decide) (c_ofR (k := ((356 + (6 * b)) + 1)) f36 f38 RH (by omega)) (fun _ _ e104 => ?_)
    cases e104
    refine x_icmp_gt (tgt := 137) dX12_fits_107 (by decide) (fun c_107 => ?_) (fun c_107 => ?_)
    · refine x_iconst (v := 0) dX12_fits_137 (by decide) ?_
      exact x_zret dX12_fits_138 rfl rfl (by unfold U3; simp [show FTs rec mg k b 0 0 = true from decide_eq_true (Int32.not_lt.mp c_84), show FTs rec mg k b 2 1 = false from decide_eq_false (Int32.not_le.mpr c_107)])
    · refine x_aload_n dX12_fits_110 6 rfl ?_
      refine x_iload dX12_fits_111 1 rfl ?_
      refine x_iload dX12_fits_113 3 rfl ?_
      refine x_iaddN (a := ((164 + (24 * k)) + 1)) (b := ((3 - (1 / 2)) - (((1 / 2) + 2) % 3))) dX12_fits_115 ?_
      refine x_callV (rf' := 0) (rl' := 0) [.int (nI (((164 + (24 * k)) + 1) + ((3 - (1 / 2)) - (((1 / 2) + 2) % 3))))] [] dX12_fits_116 vX12_217 Y_X12_of f36 (by decide) rfl rfl (Nat.le_of_ble_eq_true rfl) (Nat.le_of_ble_eq_true rfl) (by decide) (by decide) (c_ofR (k := (((164 + (24 * k)) + 1) + ((3 - (1 / 2)) - (((1 / 2) + 2) % 3)))) f36 f38 RH (by omega)) (fun _ _ e105 => ?_)
      cases e105
      refine x_iload dX12_fits_119 0 rfl ?_
      refine x_iadd dX12_fits_121 ?_
      refine x_aload_n dX12_fits_122 6 rfl ?_
      refine x_iload dX12_fits_123 2 rfl ?_
      refine x_iconst (v := 2) dX12_fits_125 (by decide) ?_
      refine x_iaddN (a := (356 + (6 * b))) (b := 2) dX12_fits_126 ?_
      refine x_callV (rf' := 0) (rl' := 0) [.int (nI ((356 + (6 * b)) + 2))] [.int ((rec ((((164 + (24 * k)) + 1) + ((3 - (1 / 2)) - (((1 / 2) + 2) % 3))))) + (2 * mg))] dX12_fits_127 vX12_217 Y_X12_of f36 (by decide) rfl rfl (Nat.le_of_ble_eq_true rfl) (Nat.le_of_ble_eq_true rfl) (by decide) (by decide) (c_ofR (k := ((356 + (6 * b)) + 2)) f36 f38 RH (by omega)) (fun _ _ e106 => ?_)
      cases e106
      refine x_icmp_gt (tgt := 137) dX12_fits_130 (by decide) (fun c_130 => ?_) (fun c_130 => ?_)
      · refine x_iconst (v := 0) dX12_fits_137 (by decide) ?_
        exact x_zret dX12_fits_138 rfl rfl (by unfold U3; simp [show FTs rec mg k b 0 0 = true from decide_eq_true (Int32.not_lt.mp c_84), show FTs rec mg k b 2 1 = true from decide_eq_true (Int32.not_lt.mp c_107), show FTs rec mg k b 1 2 = false from decide_eq_false (Int32.not_le.mpr c_130)])
      · refine x_iconst (v := 1) dX12_fits_133 (by decide) ?_
        refine x_goto (tgt := 138) dX12_fits_134 (by decide) ?_
        exact x_zret dX12_fits_138 rfl rfl (by unfold U3; simp [show FTs rec mg k b 0 0 = true from decide_eq_true (Int32.not_lt.mp c_84), show FTs rec mg k b 2 1 = true from decide_eq_true (Int32.not_lt.mp c_107), show FTs rec mg k b 1 2 = true from decide_eq_true (Int32.not_lt.mp c_130)])

set_option maxRecDepth 100000 in
set_option maxHeartbeats 4000000 in
theorem c_fits2 {G : GT} {h : List PE} {thr tpd tdy bks siz too frm knd num sgn flt plc tld lst pfo thk are brk ipd bst : Int32} {wrd : Int64} {bk rec : Nat → Int32} {nw k b : Nat} {mg : Int32} (f36 : h[36]? = some (cO 12 (MO thr tpd tdy bks siz too frm knd num sgn flt plc wrd tld ((nI nw)) lst pfo thk are brk ipd bst))) (f38 : h[38]? = some (cI 10164 bk)) (RH : nw + 484 ≤ 10164 ∧ ∀ j, j < 484 → bk (nw + j) = rec j) (hk : k < 8) (hb : b < 8)  : CT G mX12_fits 1 21 [.ref 36, .int (nI k), .int (nI b), .int mg, .int (nI 2)] h (fun o => o = (some (.int (if U3 rec mg k b 1 2 0 = true then 1 else 0)), h)) := by
  show X (NF G) G mX12_fits 1 21 0 [(0, .ref 36), (1, .int (nI k)), (2, .int (nI b)), (3, .int mg), (4, .int (nI 2))] [] h _
  refine x_iload dX12_fits_0 4 rfl ?_
  refine x_iconst (v := 2) dX12_fits_2 (by decide) ?_
  refine x_idivN (a := 2) (b := 2) (by omega) (by omega) (by omega) dX12_fits_3 ?_
  refine x_istore (lv2 := [(5, .int (nI (2 / 2))), (0, .ref 36), (1, .int (nI k)), (2, .int (nI b)), (3, .int mg), (4, .int (nI 2))]) dX12_fits_4 (by decide) rfl ?_
  refine x_iload dX12_fits_6 5 rfl ?_
  refine x_iconst (v := 2) dX12_fits_8 (by decide) ?_
  refine x_iremN (a := 2) (b := 2) (by omega) (by omega) (by omega) dX12_fits_9 ?_
  refine x_if_neN (tgt := 22) (a := (2 % 2)) (by omega) dX12_fits_10 (by decide) (fun c_10 => absurd (by decide) c_10) (fun c_10 => ?_)
  refine x_iload dX12_fits_13 0 rfl ?_
  refine x_iconst (v := 1) dX12_fits_15 (by decide) ?_
  refine x_iaddN (a := (2 / 2)) (b := 1) dX12_fits_16 ?_
  refine x_iconst (v := 3) dX12_fits_17 (by decide) ?_
  refine x_iremN (a := ((2 / 2) + 1)) (b := 3) (by omega) (by omega) (by omega) dX12_fits_18 ?_
  refine x_goto (tgt := 28) dX12_fits_19 (by decide) ?_
  refine x_istore (lv2 := [(6, .int (nI (((2 / 2) + 1) % 3))), (5, .int (nI (2 / 2))), (0, .ref 36), (1, .int (nI k)), (2, .int (nI b)), (3, .int mg), (4, .int (nI 2))]) dX12_fits_28 (by decide) rfl ?_
  refine x_iconst (v := 3) dX12_fits_30 (by decide) ?_
  refine x_iload dX12_fits_31 1 rfl ?_
  refine x_isubN (a := 3) (b := (2 / 2)) (by omega) dX12_fits_33 ?_
  refine x_iload dX12_fits_34 0 rfl ?_
  refine x_isubN (a := (3 - (2 / 2))) (b := (((2 / 2) + 1) % 3)) (by omega) dX12_fits_36 ?_
  refine x_istore (lv2 := [(7, .int (nI ((3 - (2 / 2)) - (((2 / 2) + 1) % 3)))), (6, .int (nI (((2 / 2) + 1) % 3))), (5, .int (nI (2 / 2))), (0, .ref 36), (1, .int (nI k)), (2, .int (nI b)), (3, .int mg), (4, .int (nI 2))]) dX12_fits_37 (by decide) rfl ?_
  refine x_sipush (v := 356) dX12_fits_39 (by decide) ?_
  refine x_bipush (v := 6) dX12_fits_42 (by decide) ?_
  refine x_iload_n dX12_fits_44 5 rfl ?_
  refine x_imulN (a := 6) (b := b) dX12_fits_45 ?_
  refine x_iaddN (a := 356) (b := (6 * b)) dX12_fits_46 ?_
  refine x_istore (lv2 := [(8, .int (nI (356 + (6 * b)))), (7, .int (nI ((3 - (2 / 2)) - (((2 / 2) + 1) % 3)))), (6, .int (nI (((2 / 2) + 1) % 3))), (5, .int (nI (2 / 2))), (0, .ref 36), (1, .int (nI k)), (2, .int (nI b)), (3, .int mg), (4, .int (nI 2))]) dX12_fits_47 (by decide) rfl ?_
  refine x_sipush (v := 164) dX12_fits_49 (by decide) ?_
  refine x_bipush (v := 24) dX12_fits_52 (by decide) ?_
  refine x_iload_n dX12_fits_54 5 rfl ?_
  refine x_imulN (a := 24) (b := k) dX12_fits_55 ?_
  refine x_iaddN (a := 164) (b := (24 * k)) dX12_fits_56 ?_
  refine x_iconst (v := 1) dX12_fits_57 (by decide) ?_
  refine x_iaddN (a := (164 + (24 * k))) (b := 1) dX12_fits_58 ?_
  refine x_istore (lv2 := [(9, .int (nI ((164 + (24 * k)) + 1))), (8, .int (nI (356 + (6 * b)))), (7, .int (nI ((3 - (2 / 2)) - (((2 / 2) + 1) % 3)))), (6, .int (nI (((2 / 2) + 1) % 3))), (5, .int (nI (2 / 2))), (0, .ref 36), (1, .int (nI k)), (2, .int (nI b)), (3, .int mg), (4, .int (nI 2))]) dX12_fits_59 (by decide) rfl ?_
  refine x_iconst (v := 2) dX12_fits_61 (by decide) ?_
  refine x_iload_n dX12_fits_62 8 rfl ?_
  refine x_imul dX12_fits_63 ?_
  refine x_istore (lv2 := [(10, .int (2 * mg)), (9, .int (nI ((164 + (24 * k)) + 1))), (8, .int (nI (356 + (6 * b)))), (7, .int (nI ((3 - (2 / 2)) - (((2 / 2) + 1) % 3)))), (6, .int (nI (((2 / 2) + 1) % 3))), (5, .int (nI (2 / 2))), (0, .ref 36), (1, .int (nI k)), (2, .int (nI b)), (3, .int mg), (4, .int (nI 2))]) dX12_fits_64 (by decide) rfl ?_
  refine x_aload_n dX12_fits_66 6 rfl ?_
  refine x_iload dX12_fits_67 1 rfl ?_
  refine x_iload dX12_fits_69 5 rfl ?_
  refine x_iaddN (a := ((164 + (24 * k)) + 1)) (b := (2 / 2)) dX12_fits_71 ?_
  refine x_callV (rf' := 0) (rl' := 0) [.int (nI (((164 + (24 * k)) + 1) + (2 / 2)))] [] dX12_fits_72 vX12_217 Y_X12_of f36 (by decide) rfl rfl (Nat.le_of_ble_eq_true rfl) (Nat.le_of_ble_eq_true rfl) (by decide) (by decide) (c_ofR (k := (((164 + (24 * k)) + 1) + (2 / 2))) f36 f38 RH (by omega)) (fun _ _ e101 => ?_)
  cases e101
  refine x_iload dX12_fits_75 0 rfl ?_
  refine x_iadd dX12_fits_77 ?_
  refine x_aload_n dX12_fits_78 6 rfl ?_
  refine x_iload dX12_fits_79 2 rfl ?_
  refine x_callV (rf' := 0) (rl' := 0) [.int (nI (356 + (6 * b)))] [.int ((rec ((((164 + (24 * k)) + 1) + (2 / 2)))) + (2 * mg))] dX12_fits_81 vX12_217 Y_X12_of f36 (by decide) rfl rfl (Nat.le_of_ble_eq_true rfl) (Nat.le_of_ble_eq_true rfl) (by decide) (by decide) (c_ofR (k := (356 + (6 * b))) f36 f38 RH (by omega)) (fun _ _ e102 => ?_)
  cases e102
  refine x_icmp_gt (tgt := 137) dX12_fits_84 (by decide) (fun c_84 => ?_) (fun c_84 => ?_)
  · refine x_iconst (v := 0) dX12_fits_137 (by decide) ?_
    exact x_zret dX12_fits_138 rfl rfl (by unfold U3; simp [show FTs rec mg k b 1 0 = false from decide_eq_false (Int32.not_le.mpr c_84)])
  · refine x_aload_n dX12_fits_87 6 rfl ?_
    refine x_iload dX12_fits_88 1 rfl ?_
    refine x_iload dX12_fits_90 4 rfl ?_
    refine x_iaddN (a := ((164 + (24 * k)) + 1)) (b := (((2 / 2) + 1) % 3)) dX12_fits_92 ?_
    refine x_callV (rf' := 0) (rl' := 0) [.int (nI (((164 + (24 * k)) + 1) + (((2 / 2) + 1) % 3)))] [] dX12_fits_93 vX12_217 Y_X12_of f36 (by decide) rfl rfl (Nat.le_of_ble_eq_true rfl) (Nat.le_of_ble_eq_true rfl) (by decide) (by decide) (c_ofR (k := (((164 + (24 * k)) + 1) + (((2 / 2) + 1) % 3))) f36 f38 RH (by omega)) (fun _ _ e103 => ?_)
    cases e103
    refine x_iload dX12_fits_96 0 rfl ?_
    refine x_iadd dX12_fits_98 ?_
    refine x_aload_n dX12_fits_99 6 rfl ?_
    refine x_iload dX12_fits_100 2 rfl ?_
    refine x_iconst (v := 1) dX12_fits_102 (by decide) ?_
    refine x_iaddN (a := (356 + (6 * b))) (b := 1) dX12_fits_103 ?_
    refine x_callV (rf' := 0) (rl' := 0) [.int (nI ((356 + (6 * b)) + 1))] [.int ((rec ((((164 + (24 * k)) + 1) + (((2 / 2) + 1) % 3)))) + (2 * mg))] dX12_fits_104 vX12_217 Y_X12_of f36 (by decide) rfl rfl (Nat.le_of_ble_eq_true rfl) (Nat.le_of_ble_eq_true rfl) (by decide) (by decide) (c_ofR (k := ((356 + (6 * b)) + 1)) f36 f38 RH (by omega)) (fun _ _ e104 => ?_)
    cases e104
    refine x_icmp_gt (tgt := 137) dX12_fits_107 (by decide) (fun c_107 => ?_) (fun c_107 => ?_)
    · refine x_iconst (v := 0) dX12_fits_137 (by decide) ?_
      exact x_zret dX12_fits_138 rfl rfl (by unfold U3; simp [show FTs rec mg k b 1 0 = true from decide_eq_true (Int32.not_lt.mp c_84), show FTs rec mg k b 2 1 = false from decide_eq_false (Int32.not_le.mpr c_107)])
    · refine x_aload_n dX12_fits_110 6 rfl ?_
      refine x_iload dX12_fits_111 1 rfl ?_
      refine x_iload dX12_fits_113 3 rfl ?_
      refine x_iaddN (a := ((164 + (24 * k)) + 1)) (b := ((3 - (2 / 2)) - (((2 / 2) + 1) % 3))) dX12_fits_115 ?_
      refine x_callV (rf' := 0) (rl' := 0) [.int (nI (((164 + (24 * k)) + 1) + ((3 - (2 / 2)) - (((2 / 2) + 1) % 3))))] [] dX12_fits_116 vX12_217 Y_X12_of f36 (by decide) rfl rfl (Nat.le_of_ble_eq_true rfl) (Nat.le_of_ble_eq_true rfl) (by decide) (by decide) (c_ofR (k := (((164 + (24 * k)) + 1) + ((3 - (2 / 2)) - (((2 / 2) + 1) % 3)))) f36 f38 RH (by omega)) (fun _ _ e105 => ?_)
      cases e105
      refine x_iload dX12_fits_119 0 rfl ?_
      refine x_iadd dX12_fits_121 ?_
      refine x_aload_n dX12_fits_122 6 rfl ?_
      refine x_iload dX12_fits_123 2 rfl ?_
      refine x_iconst (v := 2) dX12_fits_125 (by decide) ?_
      refine x_iaddN (a := (356 + (6 * b))) (b := 2) dX12_fits_126 ?_
      refine x_callV (rf' := 0) (rl' := 0) [.int (nI ((356 + (6 * b)) + 2))] [.int ((rec ((((164 + (24 * k)) + 1) + ((3 - (2 / 2)) - (((2 / 2) + 1) % 3))))) + (2 * mg))] dX12_fits_127 vX12_217 Y_X12_of f36 (by decide) rfl rfl (Nat.le_of_ble_eq_true rfl) (Nat.le_of_ble_eq_true rfl) (by decide) (by decide) (c_ofR (k := ((356 + (6 * b)) + 2)) f36 f38 RH (by omega)) (fun _ _ e106 => ?_)
      cases e106
      refine x_icmp_gt (tgt := 137) dX12_fits_130 (by decide) (fun c_130 => ?_) (fun c_130 => ?_)
      · refine x_iconst (v := 0) dX12_fits_137 (by decide) ?_
        exact x_zret dX12_fits_138 rfl rfl (by unfold U3; simp [show FTs rec mg k b 1 0 = true from decide_eq_true (Int32.not_lt.mp c_84), show FTs rec mg k b 2 1 = true from decide_eq_true (Int32.not_lt.mp c_107), show FTs rec mg k b 0 2 = false from decide_eq_false (Int32.not_le.mpr c_130)])
      · refine x_iconst (v := 1) dX12_fits_133 (by decide) ?_
        refine x_goto (tgt := 138) dX12_fits_134 (by decide) ?_
        exact x_zret dX12_fits_138 rfl rfl (by unfold U3; simp [show FTs rec mg k b 1 0 = true from decide_eq_true (Int32.not_lt.mp c_84), show FTs rec mg k b 2 1 = true from decide_eq_true (Int32.not_lt.mp c_107), show FTs rec mg k b 0 2 = true from decide_eq_true (Int32.not_lt.mp c_130)])

set_option maxRecDepth 100000 in
set_option maxHeartbeats 4000000 in
theorem c_fits3 {G : GT} {h : List PE} {thr tpd tdy bks siz too frm knd num sgn flt plc tld lst pfo thk are brk ipd bst : Int32} {wrd : Int64} {bk rec : Nat → Int32} {nw k b : Nat} {mg : Int32} (f36 : h[36]? = some (cO 12 (MO thr tpd tdy bks siz too frm knd num sgn flt plc wrd tld ((nI nw)) lst pfo thk are brk ipd bst))) (f38 : h[38]? = some (cI 10164 bk)) (RH : nw + 484 ≤ 10164 ∧ ∀ j, j < 484 → bk (nw + j) = rec j) (hk : k < 8) (hb : b < 8)  : CT G mX12_fits 1 21 [.ref 36, .int (nI k), .int (nI b), .int mg, .int (nI 3)] h (fun o => o = (some (.int (if U3 rec mg k b 1 0 2 = true then 1 else 0)), h)) := by
  show X (NF G) G mX12_fits 1 21 0 [(0, .ref 36), (1, .int (nI k)), (2, .int (nI b)), (3, .int mg), (4, .int (nI 3))] [] h _
  refine x_iload dX12_fits_0 4 rfl ?_
  refine x_iconst (v := 2) dX12_fits_2 (by decide) ?_
  refine x_idivN (a := 3) (b := 2) (by omega) (by omega) (by omega) dX12_fits_3 ?_
  refine x_istore (lv2 := [(5, .int (nI (3 / 2))), (0, .ref 36), (1, .int (nI k)), (2, .int (nI b)), (3, .int mg), (4, .int (nI 3))]) dX12_fits_4 (by decide) rfl ?_
  refine x_iload dX12_fits_6 5 rfl ?_
  refine x_iconst (v := 2) dX12_fits_8 (by decide) ?_
  refine x_iremN (a := 3) (b := 2) (by omega) (by omega) (by omega) dX12_fits_9 ?_
  refine x_if_neN (tgt := 22) (a := (3 % 2)) (by omega) dX12_fits_10 (by decide) (fun c_10 => ?_) (fun c_10 => absurd c_10 (by decide))
  refine x_iload dX12_fits_22 0 rfl ?_
  refine x_iconst (v := 2) dX12_fits_24 (by decide) ?_
  refine x_iaddN (a := (3 / 2)) (b := 2) dX12_fits_25 ?_
  refine x_iconst (v := 3) dX12_fits_26 (by decide) ?_
  refine x_iremN (a := ((3 / 2) + 2)) (b := 3) (by omega) (by omega) (by omega) dX12_fits_27 ?_
  refine x_istore (lv2 := [(6, .int (nI (((3 / 2) + 2) % 3))), (5, .int (nI (3 / 2))), (0, .ref 36), (1, .int (nI k)), (2, .int (nI b)), (3, .int mg), (4, .int (nI 3))]) dX12_fits_28 (by decide) rfl ?_
  refine x_iconst (v := 3) dX12_fits_30 (by decide) ?_
  refine x_iload dX12_fits_31 1 rfl ?_
  refine x_isubN (a := 3) (b := (3 / 2)) (by omega) dX12_fits_33 ?_
  refine x_iload dX12_fits_34 0 rfl ?_
  refine x_isubN (a := (3 - (3 / 2))) (b := (((3 / 2) + 2) % 3)) (by omega) dX12_fits_36 ?_
  refine x_istore (lv2 := [(7, .int (nI ((3 - (3 / 2)) - (((3 / 2) + 2) % 3)))), (6, .int (nI (((3 / 2) + 2) % 3))), (5, .int (nI (3 / 2))), (0, .ref 36), (1, .int (nI k)), (2, .int (nI b)), (3, .int mg), (4, .int (nI 3))]) dX12_fits_37 (by decide) rfl ?_
  refine x_sipush (v := 356) dX12_fits_39 (by decide) ?_
  refine x_bipush (v := 6) dX12_fits_42 (by decide) ?_
  refine x_iload_n dX12_fits_44 5 rfl ?_
  refine x_imulN (a := 6) (b := b) dX12_fits_45 ?_
  refine x_iaddN (a := 356) (b := (6 * b)) dX12_fits_46 ?_
  refine x_istore (lv2 := [(8, .int (nI (356 + (6 * b)))), (7, .int (nI ((3 - (3 / 2)) - (((3 / 2) + 2) % 3)))), (6, .int (nI (((3 / 2) + 2) % 3))), (5, .int (nI (3 / 2))), (0, .ref 36), (1, .int (nI k)), (2, .int (nI b)), (3, .int mg), (4, .int (nI 3))]) dX12_fits_47 (by decide) rfl ?_
  refine x_sipush (v := 164) dX12_fits_49 (by decide) ?_
  refine x_bipush (v := 24) dX12_fits_52 (by decide) ?_
  refine x_iload_n dX12_fits_54 5 rfl ?_
  refine x_imulN (a := 24) (b := k) dX12_fits_55 ?_
  refine x_iaddN (a := 164) (b := (24 * k)) dX12_fits_56 ?_
  refine x_iconst (v := 1) dX12_fits_57 (by decide) ?_
  refine x_iaddN (a := (164 + (24 * k))) (b := 1) dX12_fits_58 ?_
  refine x_istore (lv2 := [(9, .int (nI ((164 + (24 * k)) + 1))), (8, .int (nI (356 + (6 * b)))), (7, .int (nI ((3 - (3 / 2)) - (((3 / 2) + 2) % 3)))), (6, .int (nI (((3 / 2) + 2) % 3))), (5, .int (nI (3 / 2))), (0, .ref 36), (1, .int (nI k)), (2, .int (nI b)), (3, .int mg), (4, .int (nI 3))]) dX12_fits_59 (by decide) rfl ?_
  refine x_iconst (v := 2) dX12_fits_61 (by decide) ?_
  refine x_iload_n dX12_fits_62 8 rfl ?_
  refine x_imul dX12_fits_63 ?_
  refine x_istore (lv2 := [(10, .int (2 * mg)), (9, .int (nI ((164 + (24 * k)) + 1))), (8, .int (nI (356 + (6 * b)))), (7, .int (nI ((3 - (3 / 2)) - (((3 / 2) + 2) % 3)))), (6, .int (nI (((3 / 2) + 2) % 3))), (5, .int (nI (3 / 2))), (0, .ref 36), (1, .int (nI k)), (2, .int (nI b)), (3, .int mg), (4, .int (nI 3))]) dX12_fits_64 (by decide) rfl ?_
  refine x_aload_n dX12_fits_66 6 rfl ?_
  refine x_iload dX12_fits_67 1 rfl ?_
  refine x_iload dX12_fits_69 5 rfl ?_
  refine x_iaddN (a := ((164 + (24 * k)) + 1)) (b := (3 / 2)) dX12_fits_71 ?_
  refine x_callV (rf' := 0) (rl' := 0) [.int (nI (((164 + (24 * k)) + 1) + (3 / 2)))] [] dX12_fits_72 vX12_217 Y_X12_of f36 (by decide) rfl rfl (Nat.le_of_ble_eq_true rfl) (Nat.le_of_ble_eq_true rfl) (by decide) (by decide) (c_ofR (k := (((164 + (24 * k)) + 1) + (3 / 2))) f36 f38 RH (by omega)) (fun _ _ e101 => ?_)
  cases e101
  refine x_iload dX12_fits_75 0 rfl ?_
  refine x_iadd dX12_fits_77 ?_
  refine x_aload_n dX12_fits_78 6 rfl ?_
  refine x_iload dX12_fits_79 2 rfl ?_
  refine x_callV (rf' := 0) (rl' := 0) [.int (nI (356 + (6 * b)))] [.int ((rec ((((164 + (24 * k)) + 1) + (3 / 2)))) + (2 * mg))] dX12_fits_81 vX12_217 Y_X12_of f36 (by decide) rfl rfl (Nat.le_of_ble_eq_true rfl) (Nat.le_of_ble_eq_true rfl) (by decide) (by decide) (c_ofR (k := (356 + (6 * b))) f36 f38 RH (by omega)) (fun _ _ e102 => ?_)
  cases e102
  refine x_icmp_gt (tgt := 137) dX12_fits_84 (by decide) (fun c_84 => ?_) (fun c_84 => ?_)
  · refine x_iconst (v := 0) dX12_fits_137 (by decide) ?_
    exact x_zret dX12_fits_138 rfl rfl (by unfold U3; simp [show FTs rec mg k b 1 0 = false from decide_eq_false (Int32.not_le.mpr c_84)])
  · refine x_aload_n dX12_fits_87 6 rfl ?_
    refine x_iload dX12_fits_88 1 rfl ?_
    refine x_iload dX12_fits_90 4 rfl ?_
    refine x_iaddN (a := ((164 + (24 * k)) + 1)) (b := (((3 / 2) + 2) % 3)) dX12_fits_92 ?_
    refine x_callV (rf' := 0) (rl' := 0) [.int (nI (((164 + (24 * k)) + 1) + (((3 / 2) + 2) % 3)))] [] dX12_fits_93 vX12_217 Y_X12_of f36 (by decide) rfl rfl (Nat.le_of_ble_eq_true rfl) (Nat.le_of_ble_eq_true rfl) (by decide) (by decide) (c_ofR (k := (((164 + (24 * k)) + 1) + (((3 / 2) + 2) % 3))) f36 f38 RH (by omega)) (fun _ _ e103 => ?_)
    cases e103
    refine x_iload dX12_fits_96 0 rfl ?_
    refine x_iadd dX12_fits_98 ?_
    refine x_aload_n dX12_fits_99 6 rfl ?_
    refine x_iload dX12_fits_100 2 rfl ?_
    refine x_iconst (v := 1) dX12_fits_102 (by decide) ?_
    refine x_iaddN (a := (356 + (6 * b))) (b := 1) dX12_fits_103 ?_
    refine x_callV (rf' := 0) (rl' := 0) [.int (nI ((356 + (6 * b)) + 1))] [.int ((rec ((((164 + (24 * k)) + 1) + (((3 / 2) + 2) % 3)))) + (2 * mg))] dX12_fits_104 vX12_217 Y_X12_of f36 (by decide) rfl rfl (Nat.le_of_ble_eq_true rfl) (Nat.le_of_ble_eq_true rfl) (by decide) (by decide) (c_ofR (k := ((356 + (6 * b)) + 1)) f36 f38 RH (by omega)) (fun _ _ e104 => ?_)
    cases e104
    refine x_icmp_gt (tgt := 137) dX12_fits_107 (by decide) (fun c_107 => ?_) (fun c_107 => ?_)
    · refine x_iconst (v := 0) dX12_fits_137 (by decide) ?_
      exact x_zret dX12_fits_138 rfl rfl (by unfold U3; simp [show FTs rec mg k b 1 0 = true from decide_eq_true (Int32.not_lt.mp c_84), show FTs rec mg k b 0 1 = false from decide_eq_false (Int32.not_le.mpr c_107)])
    · refine x_aload_n dX12_fits_110 6 rfl ?_
      refine x_iload dX12_fits_111 1 rfl ?_
      refine x_iload dX12_fits_113 3 rfl ?_
      refine x_iaddN (a := ((164 + (24 * k)) + 1)) (b := ((3 - (3 / 2)) - (((3 / 2) + 2) % 3))) dX12_fits_115 ?_
      refine x_callV (rf' := 0) (rl' := 0) [.int (nI (((164 + (24 * k)) + 1) + ((3 - (3 / 2)) - (((3 / 2) + 2) % 3))))] [] dX12_fits_116 vX12_217 Y_X12_of f36 (by decide) rfl rfl (Nat.le_of_ble_eq_true rfl) (Nat.le_of_ble_eq_true rfl) (by decide) (by decide) (c_ofR (k := (((164 + (24 * k)) + 1) + ((3 - (3 / 2)) - (((3 / 2) + 2) % 3)))) f36 f38 RH (by omega)) (fun _ _ e105 => ?_)
      cases e105
      refine x_iload dX12_fits_119 0 rfl ?_
      refine x_iadd dX12_fits_121 ?_
      refine x_aload_n dX12_fits_122 6 rfl ?_
      refine x_iload dX12_fits_123 2 rfl ?_
      refine x_iconst (v := 2) dX12_fits_125 (by decide) ?_
      refine x_iaddN (a := (356 + (6 * b))) (b := 2) dX12_fits_126 ?_
      refine x_callV (rf' := 0) (rl' := 0) [.int (nI ((356 + (6 * b)) + 2))] [.int ((rec ((((164 + (24 * k)) + 1) + ((3 - (3 / 2)) - (((3 / 2) + 2) % 3))))) + (2 * mg))] dX12_fits_127 vX12_217 Y_X12_of f36 (by decide) rfl rfl (Nat.le_of_ble_eq_true rfl) (Nat.le_of_ble_eq_true rfl) (by decide) (by decide) (c_ofR (k := ((356 + (6 * b)) + 2)) f36 f38 RH (by omega)) (fun _ _ e106 => ?_)
      cases e106
      refine x_icmp_gt (tgt := 137) dX12_fits_130 (by decide) (fun c_130 => ?_) (fun c_130 => ?_)
      · refine x_iconst (v := 0) dX12_fits_137 (by decide) ?_
        exact x_zret dX12_fits_138 rfl rfl (by unfold U3; simp [show FTs rec mg k b 1 0 = true from decide_eq_true (Int32.not_lt.mp c_84), show FTs rec mg k b 0 1 = true from decide_eq_true (Int32.not_lt.mp c_107), show FTs rec mg k b 2 2 = false from decide_eq_false (Int32.not_le.mpr c_130)])
      · refine x_iconst (v := 1) dX12_fits_133 (by decide) ?_
        refine x_goto (tgt := 138) dX12_fits_134 (by decide) ?_
        exact x_zret dX12_fits_138 rfl rfl (by unfold U3; simp [show FTs rec mg k b 1 0 = true from decide_eq_true (Int32.not_lt.mp c_84), show FTs rec mg k b 0 1 = true from decide_eq_true (Int32.not_lt.mp c_107), show FTs rec mg k b 2 2 = true from decide_eq_true (Int32.not_lt.mp c_130)])

set_option maxRecDepth 100000 in
set_option maxHeartbeats 4000000 in
theorem c_fits4 {G : GT} {h : List PE} {thr tpd tdy bks siz too frm knd num sgn flt plc tld lst pfo thk are brk ipd bst : Int32} {wrd : Int64} {bk rec : Nat → Int32} {nw k b : Nat} {mg : Int32} (f36 : h[36]? = some (cO 12 (MO thr tpd tdy bks siz too frm knd num sgn flt plc wrd tld ((nI nw)) lst pfo thk are brk ipd bst))) (f38 : h[38]? = some (cI 10164 bk)) (RH : nw + 484 ≤ 10164 ∧ ∀ j, j < 484 → bk (nw + j) = rec j) (hk : k < 8) (hb : b < 8)  : CT G mX12_fits 1 21 [.ref 36, .int (nI k), .int (nI b), .int mg, .int (nI 4)] h (fun o => o = (some (.int (if U3 rec mg k b 2 0 1 = true then 1 else 0)), h)) := by
  show X (NF G) G mX12_fits 1 21 0 [(0, .ref 36), (1, .int (nI k)), (2, .int (nI b)), (3, .int mg), (4, .int (nI 4))] [] h _
  refine x_iload dX12_fits_0 4 rfl ?_
  refine x_iconst (v := 2) dX12_fits_2 (by decide) ?_
  refine x_idivN (a := 4) (b := 2) (by omega) (by omega) (by omega) dX12_fits_3 ?_
  refine x_istore (lv2 := [(5, .int (nI (4 / 2))), (0, .ref 36), (1, .int (nI k)), (2, .int (nI b)), (3, .int mg), (4, .int (nI 4))]) dX12_fits_4 (by decide) rfl ?_
  refine x_iload dX12_fits_6 5 rfl ?_
  refine x_iconst (v := 2) dX12_fits_8 (by decide) ?_
  refine x_iremN (a := 4) (b := 2) (by omega) (by omega) (by omega) dX12_fits_9 ?_
  refine x_if_neN (tgt := 22) (a := (4 % 2)) (by omega) dX12_fits_10 (by decide) (fun c_10 => absurd (by decide) c_10) (fun c_10 => ?_)
  refine x_iload dX12_fits_13 0 rfl ?_
  refine x_iconst (v := 1) dX12_fits_15 (by decide) ?_
  refine x_iaddN (a := (4 / 2)) (b := 1) dX12_fits_16 ?_
  refine x_iconst (v := 3) dX12_fits_17 (by decide) ?_
  refine x_iremN (a := ((4 / 2) + 1)) (b := 3) (by omega) (by omega) (by omega) dX12_fits_18 ?_
  refine x_goto (tgt := 28) dX12_fits_19 (by decide) ?_
  refine x_istore (lv2 := [(6, .int (nI (((4 / 2) + 1) % 3))), (5, .int (nI (4 / 2))), (0, .ref 36), (1, .int (nI k)), (2, .int (nI b)), (3, .int mg), (4, .int (nI 4))]) dX12_fits_28 (by decide) rfl ?_
  refine x_iconst (v := 3) dX12_fits_30 (by decide) ?_
  refine x_iload dX12_fits_31 1 rfl ?_
  refine x_isubN (a := 3) (b := (4 / 2)) (by omega) dX12_fits_33 ?_
  refine x_iload dX12_fits_34 0 rfl ?_
  refine x_isubN (a := (3 - (4 / 2))) (b := (((4 / 2) + 1) % 3)) (by omega) dX12_fits_36 ?_
  refine x_istore (lv2 := [(7, .int (nI ((3 - (4 / 2)) - (((4 / 2) + 1) % 3)))), (6, .int (nI (((4 / 2) + 1) % 3))), (5, .int (nI (4 / 2))), (0, .ref 36), (1, .int (nI k)), (2, .int (nI b)), (3, .int mg), (4, .int (nI 4))]) dX12_fits_37 (by decide) rfl ?_
  refine x_sipush (v := 356) dX12_fits_39 (by decide) ?_
  refine x_bipush (v := 6) dX12_fits_42 (by decide) ?_
  refine x_iload_n dX12_fits_44 5 rfl ?_
  refine x_imulN (a := 6) (b := b) dX12_fits_45 ?_
  refine x_iaddN (a := 356) (b := (6 * b)) dX12_fits_46 ?_
  refine x_istore (lv2 := [(8, .int (nI (356 + (6 * b)))), (7, .int (nI ((3 - (4 / 2)) - (((4 / 2) + 1) % 3)))), (6, .int (nI (((4 / 2) + 1) % 3))), (5, .int (nI (4 / 2))), (0, .ref 36), (1, .int (nI k)), (2, .int (nI b)), (3, .int mg), (4, .int (nI 4))]) dX12_fits_47 (by decide) rfl ?_
  refine x_sipush (v := 164) dX12_fits_49 (by decide) ?_
  refine x_bipush (v := 24) dX12_fits_52 (by decide) ?_
  refine x_iload_n dX12_fits_54 5 rfl ?_
  refine x_imulN (a := 24) (b := k) dX12_fits_55 ?_
  refine x_iaddN (a := 164) (b := (24 * k)) dX12_fits_56 ?_
  refine x_iconst (v := 1) dX12_fits_57 (by decide) ?_
  refine x_iaddN (a := (164 + (24 * k))) (b := 1) dX12_fits_58 ?_
  refine x_istore (lv2 := [(9, .int (nI ((164 + (24 * k)) + 1))), (8, .int (nI (356 + (6 * b)))), (7, .int (nI ((3 - (4 / 2)) - (((4 / 2) + 1) % 3)))), (6, .int (nI (((4 / 2) + 1) % 3))), (5, .int (nI (4 / 2))), (0, .ref 36), (1, .int (nI k)), (2, .int (nI b)), (3, .int mg), (4, .int (nI 4))]) dX12_fits_59 (by decide) rfl ?_
  refine x_iconst (v := 2) dX12_fits_61 (by decide) ?_
  refine x_iload_n dX12_fits_62 8 rfl ?_
  refine x_imul dX12_fits_63 ?_
  refine x_istore (lv2 := [(10, .int (2 * mg)), (9, .int (nI ((164 + (24 * k)) + 1))), (8, .int (nI (356 + (6 * b)))), (7, .int (nI ((3 - (4 / 2)) - (((4 / 2) + 1) % 3)))), (6, .int (nI (((4 / 2) + 1) % 3))), (5, .int (nI (4 / 2))), (0, .ref 36), (1, .int (nI k)), (2, .int (nI b)), (3, .int mg), (4, .int (nI 4))]) dX12_fits_64 (by decide) rfl ?_
  refine x_aload_n dX12_fits_66 6 rfl ?_
  refine x_iload dX12_fits_67 1 rfl ?_
  refine x_iload dX12_fits_69 5 rfl ?_
  refine x_iaddN (a := ((164 + (24 * k)) + 1)) (b := (4 / 2)) dX12_fits_71 ?_
  refine x_callV (rf' := 0) (rl' := 0) [.int (nI (((164 + (24 * k)) + 1) + (4 / 2)))] [] dX12_fits_72 vX12_217 Y_X12_of f36 (by decide) rfl rfl (Nat.le_of_ble_eq_true rfl) (Nat.le_of_ble_eq_true rfl) (by decide) (by decide) (c_ofR (k := (((164 + (24 * k)) + 1) + (4 / 2))) f36 f38 RH (by omega)) (fun _ _ e101 => ?_)
  cases e101
  refine x_iload dX12_fits_75 0 rfl ?_
  refine x_iadd dX12_fits_77 ?_
  refine x_aload_n dX12_fits_78 6 rfl ?_
  refine x_iload dX12_fits_79 2 rfl ?_
  refine x_callV (rf' := 0) (rl' := 0) [.int (nI (356 + (6 * b)))] [.int ((rec ((((164 + (24 * k)) + 1) + (4 / 2)))) + (2 * mg))] dX12_fits_81 vX12_217 Y_X12_of f36 (by decide) rfl rfl (Nat.le_of_ble_eq_true rfl) (Nat.le_of_ble_eq_true rfl) (by decide) (by decide) (c_ofR (k := (356 + (6 * b))) f36 f38 RH (by omega)) (fun _ _ e102 => ?_)
  cases e102
  refine x_icmp_gt (tgt := 137) dX12_fits_84 (by decide) (fun c_84 => ?_) (fun c_84 => ?_)
  · refine x_iconst (v := 0) dX12_fits_137 (by decide) ?_
    exact x_zret dX12_fits_138 rfl rfl (by unfold U3; simp [show FTs rec mg k b 2 0 = false from decide_eq_false (Int32.not_le.mpr c_84)])
  · refine x_aload_n dX12_fits_87 6 rfl ?_
    refine x_iload dX12_fits_88 1 rfl ?_
    refine x_iload dX12_fits_90 4 rfl ?_
    refine x_iaddN (a := ((164 + (24 * k)) + 1)) (b := (((4 / 2) + 1) % 3)) dX12_fits_92 ?_
    refine x_callV (rf' := 0) (rl' := 0) [.int (nI (((164 + (24 * k)) + 1) + (((4 / 2) + 1) % 3)))] [] dX12_fits_93 vX12_217 Y_X12_of f36 (by decide) rfl rfl (Nat.le_of_ble_eq_true rfl) (Nat.le_of_ble_eq_true rfl) (by decide) (by decide) (c_ofR (k := (((164 + (24 * k)) + 1) + (((4 / 2) + 1) % 3))) f36 f38 RH (by omega)) (fun _ _ e103 => ?_)
    cases e103
    refine x_iload dX12_fits_96 0 rfl ?_
    refine x_iadd dX12_fits_98 ?_
    refine x_aload_n dX12_fits_99 6 rfl ?_
    refine x_iload dX12_fits_100 2 rfl ?_
    refine x_iconst (v := 1) dX12_fits_102 (by decide) ?_
    refine x_iaddN (a := (356 + (6 * b))) (b := 1) dX12_fits_103 ?_
    refine x_callV (rf' := 0) (rl' := 0) [.int (nI ((356 + (6 * b)) + 1))] [.int ((rec ((((164 + (24 * k)) + 1) + (((4 / 2) + 1) % 3)))) + (2 * mg))] dX12_fits_104 vX12_217 Y_X12_of f36 (by decide) rfl rfl (Nat.le_of_ble_eq_true rfl) (Nat.le_of_ble_eq_true rfl) (by decide) (by decide) (c_ofR (k := ((356 + (6 * b)) + 1)) f36 f38 RH (by omega)) (fun _ _ e104 => ?_)
    cases e104
    refine x_icmp_gt (tgt := 137) dX12_fits_107 (by decide) (fun c_107 => ?_) (fun c_107 => ?_)
    · refine x_iconst (v := 0) dX12_fits_137 (by decide) ?_
      exact x_zret dX12_fits_138 rfl rfl (by unfold U3; simp [show FTs rec mg k b 2 0 = true from decide_eq_true (Int32.not_lt.mp c_84), show FTs rec mg k b 0 1 = false from decide_eq_false (Int32.not_le.mpr c_107)])
    · refine x_aload_n dX12_fits_110 6 rfl ?_
      refine x_iload dX12_fits_111 1 rfl ?_
      refine x_iload dX12_fits_113 3 rfl ?_
      refine x_iaddN (a := ((164 + (24 * k)) + 1)) (b := ((3 - (4 / 2)) - (((4 / 2) + 1) % 3))) dX12_fits_115 ?_
      refine x_callV (rf' := 0) (rl' := 0) [.int (nI (((164 + (24 * k)) + 1) + ((3 - (4 / 2)) - (((4 / 2) + 1) % 3))))] [] dX12_fits_116 vX12_217 Y_X12_of f36 (by decide) rfl rfl (Nat.le_of_ble_eq_true rfl) (Nat.le_of_ble_eq_true rfl) (by decide) (by decide) (c_ofR (k := (((164 + (24 * k)) + 1) + ((3 - (4 / 2)) - (((4 / 2) + 1) % 3)))) f36 f38 RH (by omega)) (fun _ _ e105 => ?_)
      cases e105
      refine x_iload dX12_fits_119 0 rfl ?_
      refine x_iadd dX12_fits_121 ?_
      refine x_aload_n dX12_fits_122 6 rfl ?_
      refine x_iload dX12_fits_123 2 rfl ?_
      refine x_iconst (v := 2) dX12_fits_125 (by decide) ?_
      refine x_iaddN (a := (356 + (6 * b))) (b := 2) dX12_fits_126 ?_
      refine x_callV (rf' := 0) (rl' := 0) [.int (nI ((356 + (6 * b)) + 2))] [.int ((rec ((((164 + (24 * k)) + 1) + ((3 - (4 / 2)) - (((4 / 2) + 1) % 3))))) + (2 * mg))] dX12_fits_127 vX12_217 Y_X12_of f36 (by decide) rfl rfl (Nat.le_of_ble_eq_true rfl) (Nat.le_of_ble_eq_true rfl) (by decide) (by decide) (c_ofR (k := ((356 + (6 * b)) + 2)) f36 f38 RH (by omega)) (fun _ _ e106 => ?_)
      cases e106
      refine x_icmp_gt (tgt := 137) dX12_fits_130 (by decide) (fun c_130 => ?_) (fun c_130 => ?_)
      · refine x_iconst (v := 0) dX12_fits_137 (by decide) ?_
        exact x_zret dX12_fits_138 rfl rfl (by unfold U3; simp [show FTs rec mg k b 2 0 = true from decide_eq_true (Int32.not_lt.mp c_84), show FTs rec mg k b 0 1 = true from decide_eq_true (Int32.not_lt.mp c_107), show FTs rec mg k b 1 2 = false from decide_eq_false (Int32.not_le.mpr c_130)])
      · refine x_iconst (v := 1) dX12_fits_133 (by decide) ?_
        refine x_goto (tgt := 138) dX12_fits_134 (by decide) ?_
        exact x_zret dX12_fits_138 rfl rfl (by unfold U3; simp [show FTs rec mg k b 2 0 = true from decide_eq_true (Int32.not_lt.mp c_84), show FTs rec mg k b 0 1 = true from decide_eq_true (Int32.not_lt.mp c_107), show FTs rec mg k b 1 2 = true from decide_eq_true (Int32.not_lt.mp c_130)])

set_option maxRecDepth 100000 in
set_option maxHeartbeats 4000000 in
theorem c_fits5 {G : GT} {h : List PE} {thr tpd tdy bks siz too frm knd num sgn flt plc tld lst pfo thk are brk ipd bst : Int32} {wrd : Int64} {bk rec : Nat → Int32} {nw k b : Nat} {mg : Int32} (f36 : h[36]? = some (cO 12 (MO thr tpd tdy bks siz too frm knd num sgn flt plc wrd tld ((nI nw)) lst pfo thk are brk ipd bst))) (f38 : h[38]? = some (cI 10164 bk)) (RH : nw + 484 ≤ 10164 ∧ ∀ j, j < 484 → bk (nw + j) = rec j) (hk : k < 8) (hb : b < 8)  : CT G mX12_fits 1 21 [.ref 36, .int (nI k), .int (nI b), .int mg, .int (nI 5)] h (fun o => o = (some (.int (if U3 rec mg k b 2 1 0 = true then 1 else 0)), h)) := by
  show X (NF G) G mX12_fits 1 21 0 [(0, .ref 36), (1, .int (nI k)), (2, .int (nI b)), (3, .int mg), (4, .int (nI 5))] [] h _
  refine x_iload dX12_fits_0 4 rfl ?_
  refine x_iconst (v := 2) dX12_fits_2 (by decide) ?_
  refine x_idivN (a := 5) (b := 2) (by omega) (by omega) (by omega) dX12_fits_3 ?_
  refine x_istore (lv2 := [(5, .int (nI (5 / 2))), (0, .ref 36), (1, .int (nI k)), (2, .int (nI b)), (3, .int mg), (4, .int (nI 5))]) dX12_fits_4 (by decide) rfl ?_
  refine x_iload dX12_fits_6 5 rfl ?_
  refine x_iconst (v := 2) dX12_fits_8 (by decide) ?_
  refine x_iremN (a := 5) (b := 2) (by omega) (by omega) (by omega) dX12_fits_9 ?_
  refine x_if_neN (tgt := 22) (a := (5 % 2)) (by omega) dX12_fits_10 (by decide) (fun c_10 => ?_) (fun c_10 => absurd c_10 (by decide))
  refine x_iload dX12_fits_22 0 rfl ?_
  refine x_iconst (v := 2) dX12_fits_24 (by decide) ?_
  refine x_iaddN (a := (5 / 2)) (b := 2) dX12_fits_25 ?_
  refine x_iconst (v := 3) dX12_fits_26 (by decide) ?_
  refine x_iremN (a := ((5 / 2) + 2)) (b := 3) (by omega) (by omega) (by omega) dX12_fits_27 ?_
  refine x_istore (lv2 := [(6, .int (nI (((5 / 2) + 2) % 3))), (5, .int (nI (5 / 2))), (0, .ref 36), (1, .int (nI k)), (2, .int (nI b)), (3, .int mg), (4, .int (nI 5))]) dX12_fits_28 (by decide) rfl ?_
  refine x_iconst (v := 3) dX12_fits_30 (by decide) ?_
  refine x_iload dX12_fits_31 1 rfl ?_
  refine x_isubN (a := 3) (b := (5 / 2)) (by omega) dX12_fits_33 ?_
  refine x_iload dX12_fits_34 0 rfl ?_
  refine x_isubN (a := (3 - (5 / 2))) (b := (((5 / 2) + 2) % 3)) (by omega) dX12_fits_36 ?_
  refine x_istore (lv2 := [(7, .int (nI ((3 - (5 / 2)) - (((5 / 2) + 2) % 3)))), (6, .int (nI (((5 / 2) + 2) % 3))), (5, .int (nI (5 / 2))), (0, .ref 36), (1, .int (nI k)), (2, .int (nI b)), (3, .int mg), (4, .int (nI 5))]) dX12_fits_37 (by decide) rfl ?_
  refine x_sipush (v := 356) dX12_fits_39 (by decide) ?_
  refine x_bipush (v := 6) dX12_fits_42 (by decide) ?_
  refine x_iload_n dX12_fits_44 5 rfl ?_
  refine x_imulN (a := 6) (b := b) dX12_fits_45 ?_
  refine x_iaddN (a := 356) (b := (6 * b)) dX12_fits_46 ?_
  refine x_istore (lv2 := [(8, .int (nI (356 + (6 * b)))), (7, .int (nI ((3 - (5 / 2)) - (((5 / 2) + 2) % 3)))), (6, .int (nI (((5 / 2) + 2) % 3))), (5, .int (nI (5 / 2))), (0, .ref 36), (1, .int (nI k)), (2, .int (nI b)), (3, .int mg), (4, .int (nI 5))]) dX12_fits_47 (by decide) rfl ?_
  refine x_sipush (v := 164) dX12_fits_49 (by decide) ?_
  refine x_bipush (v := 24) dX12_fits_52 (by decide) ?_
  refine x_iload_n dX12_fits_54 5 rfl ?_
  refine x_imulN (a := 24) (b := k) dX12_fits_55 ?_
  refine x_iaddN (a := 164) (b := (24 * k)) dX12_fits_56 ?_
  refine x_iconst (v := 1) dX12_fits_57 (by decide) ?_
  refine x_iaddN (a := (164 + (24 * k))) (b := 1) dX12_fits_58 ?_
  refine x_istore (lv2 := [(9, .int (nI ((164 + (24 * k)) + 1))), (8, .int (nI (356 + (6 * b)))), (7, .int (nI ((3 - (5 / 2)) - (((5 / 2) + 2) % 3)))), (6, .int (nI (((5 / 2) + 2) % 3))), (5, .int (nI (5 / 2))), (0, .ref 36), (1, .int (nI k)), (2, .int (nI b)), (3, .int mg), (4, .int (nI 5))]) dX12_fits_59 (by decide) rfl ?_
  refine x_iconst (v := 2) dX12_fits_61 (by decide) ?_
  refine x_iload_n dX12_fits_62 8 rfl ?_
  refine x_imul dX12_fits_63 ?_
  refine x_istore (lv2 := [(10, .int (2 * mg)), (9, .int (nI ((164 + (24 * k)) + 1))), (8, .int (nI (356 + (6 * b)))), (7, .int (nI ((3 - (5 / 2)) - (((5 / 2) + 2) % 3)))), (6, .int (nI (((5 / 2) + 2) % 3))), (5, .int (nI (5 / 2))), (0, .ref 36), (1, .int (nI k)), (2, .int (nI b)), (3, .int mg), (4, .int (nI 5))]) dX12_fits_64 (by decide) rfl ?_
  refine x_aload_n dX12_fits_66 6 rfl ?_
  refine x_iload dX12_fits_67 1 rfl ?_
  refine x_iload dX12_fits_69 5 rfl ?_
  refine x_iaddN (a := ((164 + (24 * k)) + 1)) (b := (5 / 2)) dX12_fits_71 ?_
  refine x_callV (rf' := 0) (rl' := 0) [.int (nI (((164 + (24 * k)) + 1) + (5 / 2)))] [] dX12_fits_72 vX12_217 Y_X12_of f36 (by decide) rfl rfl (Nat.le_of_ble_eq_true rfl) (Nat.le_of_ble_eq_true rfl) (by decide) (by decide) (c_ofR (k := (((164 + (24 * k)) + 1) + (5 / 2))) f36 f38 RH (by omega)) (fun _ _ e101 => ?_)
  cases e101
  refine x_iload dX12_fits_75 0 rfl ?_
  refine x_iadd dX12_fits_77 ?_
  refine x_aload_n dX12_fits_78 6 rfl ?_
  refine x_iload dX12_fits_79 2 rfl ?_
  refine x_callV (rf' := 0) (rl' := 0) [.int (nI (356 + (6 * b)))] [.int ((rec ((((164 + (24 * k)) + 1) + (5 / 2)))) + (2 * mg))] dX12_fits_81 vX12_217 Y_X12_of f36 (by decide) rfl rfl (Nat.le_of_ble_eq_true rfl) (Nat.le_of_ble_eq_true rfl) (by decide) (by decide) (c_ofR (k := (356 + (6 * b))) f36 f38 RH (by omega)) (fun _ _ e102 => ?_)
  cases e102
  refine x_icmp_gt (tgt := 137) dX12_fits_84 (by decide) (fun c_84 => ?_) (fun c_84 => ?_)
  · refine x_iconst (v := 0) dX12_fits_137 (by decide) ?_
    exact x_zret dX12_fits_138 rfl rfl (by unfold U3; simp [show FTs rec mg k b 2 0 = false from decide_eq_false (Int32.not_le.mpr c_84)])
  · refine x_aload_n dX12_fits_87 6 rfl ?_
    refine x_iload dX12_fits_88 1 rfl ?_
    refine x_iload dX12_fits_90 4 rfl ?_
    refine x_iaddN (a := ((164 + (24 * k)) + 1)) (b := (((5 / 2) + 2) % 3)) dX12_fits_92 ?_
    refine x_callV (rf' := 0) (rl' := 0) [.int (nI (((164 + (24 * k)) + 1) + (((5 / 2) + 2) % 3)))] [] dX12_fits_93 vX12_217 Y_X12_of f36 (by decide) rfl rfl (Nat.le_of_ble_eq_true rfl) (Nat.le_of_ble_eq_true rfl) (by decide) (by decide) (c_ofR (k := (((164 + (24 * k)) + 1) + (((5 / 2) + 2) % 3))) f36 f38 RH (by omega)) (fun _ _ e103 => ?_)
    cases e103
    refine x_iload dX12_fits_96 0 rfl ?_
    refine x_iadd dX12_fits_98 ?_
    refine x_aload_n dX12_fits_99 6 rfl ?_
    refine x_iload dX12_fits_100 2 rfl ?_
    refine x_iconst (v := 1) dX12_fits_102 (by decide) ?_
    refine x_iaddN (a := (356 + (6 * b))) (b := 1) dX12_fits_103 ?_
    refine x_callV (rf' := 0) (rl' := 0) [.int (nI ((356 + (6 * b)) + 1))] [.int ((rec ((((164 + (24 * k)) + 1) + (((5 / 2) + 2) % 3)))) + (2 * mg))] dX12_fits_104 vX12_217 Y_X12_of f36 (by decide) rfl rfl (Nat.le_of_ble_eq_true rfl) (Nat.le_of_ble_eq_true rfl) (by decide) (by decide) (c_ofR (k := ((356 + (6 * b)) + 1)) f36 f38 RH (by omega)) (fun _ _ e104 => ?_)
    cases e104
    refine x_icmp_gt (tgt := 137) dX12_fits_107 (by decide) (fun c_107 => ?_) (fun c_107 => ?_)
    · refine x_iconst (v := 0) dX12_fits_137 (by decide) ?_
      exact x_zret dX12_fits_138 rfl rfl (by unfold U3; simp [show FTs rec mg k b 2 0 = true from decide_eq_true (Int32.not_lt.mp c_84), show FTs rec mg k b 1 1 = false from decide_eq_false (Int32.not_le.mpr c_107)])
    · refine x_aload_n dX12_fits_110 6 rfl ?_
      refine x_iload dX12_fits_111 1 rfl ?_
      refine x_iload dX12_fits_113 3 rfl ?_
      refine x_iaddN (a := ((164 + (24 * k)) + 1)) (b := ((3 - (5 / 2)) - (((5 / 2) + 2) % 3))) dX12_fits_115 ?_
      refine x_callV (rf' := 0) (rl' := 0) [.int (nI (((164 + (24 * k)) + 1) + ((3 - (5 / 2)) - (((5 / 2) + 2) % 3))))] [] dX12_fits_116 vX12_217 Y_X12_of f36 (by decide) rfl rfl (Nat.le_of_ble_eq_true rfl) (Nat.le_of_ble_eq_true rfl) (by decide) (by decide) (c_ofR (k := (((164 + (24 * k)) + 1) + ((3 - (5 / 2)) - (((5 / 2) + 2) % 3)))) f36 f38 RH (by omega)) (fun _ _ e105 => ?_)
      cases e105
      refine x_iload dX12_fits_119 0 rfl ?_
      refine x_iadd dX12_fits_121 ?_
      refine x_aload_n dX12_fits_122 6 rfl ?_
      refine x_iload dX12_fits_123 2 rfl ?_
      refine x_iconst (v := 2) dX12_fits_125 (by decide) ?_
      refine x_iaddN (a := (356 + (6 * b))) (b := 2) dX12_fits_126 ?_
      refine x_callV (rf' := 0) (rl' := 0) [.int (nI ((356 + (6 * b)) + 2))] [.int ((rec ((((164 + (24 * k)) + 1) + ((3 - (5 / 2)) - (((5 / 2) + 2) % 3))))) + (2 * mg))] dX12_fits_127 vX12_217 Y_X12_of f36 (by decide) rfl rfl (Nat.le_of_ble_eq_true rfl) (Nat.le_of_ble_eq_true rfl) (by decide) (by decide) (c_ofR (k := ((356 + (6 * b)) + 2)) f36 f38 RH (by omega)) (fun _ _ e106 => ?_)
      cases e106
      refine x_icmp_gt (tgt := 137) dX12_fits_130 (by decide) (fun c_130 => ?_) (fun c_130 => ?_)
      · refine x_iconst (v := 0) dX12_fits_137 (by decide) ?_
        exact x_zret dX12_fits_138 rfl rfl (by unfold U3; simp [show FTs rec mg k b 2 0 = true from decide_eq_true (Int32.not_lt.mp c_84), show FTs rec mg k b 1 1 = true from decide_eq_true (Int32.not_lt.mp c_107), show FTs rec mg k b 0 2 = false from decide_eq_false (Int32.not_le.mpr c_130)])
      · refine x_iconst (v := 1) dX12_fits_133 (by decide) ?_
        refine x_goto (tgt := 138) dX12_fits_134 (by decide) ?_
        exact x_zret dX12_fits_138 rfl rfl (by unfold U3; simp [show FTs rec mg k b 2 0 = true from decide_eq_true (Int32.not_lt.mp c_84), show FTs rec mg k b 1 1 = true from decide_eq_true (Int32.not_lt.mp c_107), show FTs rec mg k b 0 2 = true from decide_eq_true (Int32.not_lt.mp c_130)])

set_option maxRecDepth 100000 in
set_option maxHeartbeats 4000000 in
theorem c_goesIntoM {G : GT} {h : List PE} {thr tpd tdy bks siz too frm knd num sgn flt plc tld lst pfo thk are brk ipd bst : Int32} {wrd : Int64} {bk rec : Nat → Int32} {nw k b : Nat} {mg : Int32} (f36 : h[36]? = some (cO 12 (MO thr tpd tdy bks siz too frm knd num sgn flt plc wrd tld ((nI nw)) lst pfo thk are brk ipd bst))) (f38 : h[38]? = some (cI 10164 bk)) (RH : nw + 484 ≤ 10164 ∧ ∀ j, j < 484 → bk (nw + j) = rec j) (hk : k < 8) (hb : b < 8)  : CT G mX12_goesInto 2 51 [.ref 36, .int (nI k), .int (nI b), .int mg] h (fun o => o = (some (.int (if GI rec mg k b = true then 1 else 0)), h)) := by
  show X (NF G) G mX12_goesInto 2 51 0 [(0, .ref 36), (1, .int (nI k)), (2, .int (nI b)), (3, .int mg)] [] h _
  refine x_iconst (v := 0) dX12_goesInto_0 (by decide) ?_
  refine x_istore (lv2 := [(4, .int 0), (0, .ref 36), (1, .int (nI k)), (2, .int (nI b)), (3, .int mg)]) dX12_goesInto_1 (by decide) rfl ?_
  refine x_iload dX12_goesInto_3 0 rfl ?_
  refine x_bipush (v := 6) dX12_goesInto_5 (by decide) ?_
  refine x_icmp_ge (tgt := 30) dX12_goesInto_7 (by decide) (fun c_7 => absurd c_7 (by decide)) (fun c_7 => ?_)
  refine x_aload_n dX12_goesInto_10 1 rfl ?_
  refine x_iload_n dX12_goesInto_11 2 rfl ?_
  refine x_iload_n dX12_goesInto_12 3 rfl ?_
  refine x_iload_n dX12_goesInto_13 4 rfl ?_
  refine x_iload dX12_goesInto_14 0 rfl ?_
  refine x_callV (rf' := 1) (rl' := 21) [.int (nI k), .int (nI b), .int mg, .int 0] [] dX12_goesInto_16 vX12_287 Y_X12_fits f36 (by decide) rfl rfl (Nat.le_of_ble_eq_true rfl) (Nat.le_of_ble_eq_true rfl) (by decide) (by decide) (c_fits0 f36 f38 RH hk hb) (fun _ _ e101 => ?_)
  cases e101
  by_cases u0 : U3 rec mg k b 0 1 2 = true
  · rw [if_pos u0]
    refine x_if_eq (tgt := 24) dX12_goesInto_19 (by decide) (fun c_19 => absurd c_19 (by decide)) (fun c_19 => ?_)
    refine x_iconst (v := 1) dX12_goesInto_22 (by decide) ?_
    exact x_zret dX12_goesInto_23 rfl rfl (by rw [GI_U]; simp [u0])
  · rw [if_neg u0]
    refine x_if_eq (tgt := 24) dX12_goesInto_19 (by decide) (fun c_19 => ?_) (fun c_19 => absurd (by decide) c_19)
    refine x_iinc (lv2 := [(4, .int 1), (0, .ref 36), (1, .int (nI k)), (2, .int (nI b)), (3, .int mg)]) dX12_goesInto_24 0 rfl (by decide) (by decide) rfl ?_
    refine x_goto (tgt := 3) dX12_goesInto_27 (by decide) ?_
    refine x_iload dX12_goesInto_3 0 rfl ?_
    refine x_bipush (v := 6) dX12_goesInto_5 (by decide) ?_
    refine x_icmp_ge (tgt := 30) dX12_goesInto_7 (by decide) (fun c_7 => absurd c_7 (by decide)) (fun c_7 => ?_)
    refine x_aload_n dX12_goesInto_10 1 rfl ?_
    refine x_iload_n dX12_goesInto_11 2 rfl ?_
    refine x_iload_n dX12_goesInto_12 3 rfl ?_
    refine x_iload_n dX12_goesInto_13 4 rfl ?_
    refine x_iload dX12_goesInto_14 0 rfl ?_
    refine x_callV (rf' := 1) (rl' := 21) [.int (nI k), .int (nI b), .int mg, .int 1] [] dX12_goesInto_16 vX12_287 Y_X12_fits f36 (by decide) rfl rfl (Nat.le_of_ble_eq_true rfl) (Nat.le_of_ble_eq_true rfl) (by decide) (by decide) (c_fits1 f36 f38 RH hk hb) (fun _ _ e102 => ?_)
    cases e102
    by_cases u1 : U3 rec mg k b 0 2 1 = true
    · rw [if_pos u1]
      refine x_if_eq (tgt := 24) dX12_goesInto_19 (by decide) (fun c_19 => absurd c_19 (by decide)) (fun c_19 => ?_)
      refine x_iconst (v := 1) dX12_goesInto_22 (by decide) ?_
      exact x_zret dX12_goesInto_23 rfl rfl (by rw [GI_U]; simp [u0, u1])
    · rw [if_neg u1]
      refine x_if_eq (tgt := 24) dX12_goesInto_19 (by decide) (fun c_19 => ?_) (fun c_19 => absurd (by decide) c_19)
      refine x_iinc (lv2 := [(4, .int 2), (0, .ref 36), (1, .int (nI k)), (2, .int (nI b)), (3, .int mg)]) dX12_goesInto_24 0 rfl (by decide) (by decide) rfl ?_
      refine x_goto (tgt := 3) dX12_goesInto_27 (by decide) ?_
      refine x_iload dX12_goesInto_3 0 rfl ?_
      refine x_bipush (v := 6) dX12_goesInto_5 (by decide) ?_
      refine x_icmp_ge (tgt := 30) dX12_goesInto_7 (by decide) (fun c_7 => absurd c_7 (by decide)) (fun c_7 => ?_)
      refine x_aload_n dX12_goesInto_10 1 rfl ?_
      refine x_iload_n dX12_goesInto_11 2 rfl ?_
      refine x_iload_n dX12_goesInto_12 3 rfl ?_
      refine x_iload_n dX12_goesInto_13 4 rfl ?_
      refine x_iload dX12_goesInto_14 0 rfl ?_
      refine x_callV (rf' := 1) (rl' := 21) [.int (nI k), .int (nI b), .int mg, .int 2] [] dX12_goesInto_16 vX12_287 Y_X12_fits f36 (by decide) rfl rfl (Nat.le_of_ble_eq_true rfl) (Nat.le_of_ble_eq_true rfl) (by decide) (by decide) (c_fits2 f36 f38 RH hk hb) (fun _ _ e103 => ?_)
      cases e103
      by_cases u2 : U3 rec mg k b 1 2 0 = true
      · rw [if_pos u2]
        refine x_if_eq (tgt := 24) dX12_goesInto_19 (by decide) (fun c_19 => absurd c_19 (by decide)) (fun c_19 => ?_)
        refine x_iconst (v := 1) dX12_goesInto_22 (by decide) ?_
        exact x_zret dX12_goesInto_23 rfl rfl (by rw [GI_U]; simp [u0, u1, u2])
      · rw [if_neg u2]
        refine x_if_eq (tgt := 24) dX12_goesInto_19 (by decide) (fun c_19 => ?_) (fun c_19 => absurd (by decide) c_19)
        refine x_iinc (lv2 := [(4, .int 3), (0, .ref 36), (1, .int (nI k)), (2, .int (nI b)), (3, .int mg)]) dX12_goesInto_24 0 rfl (by decide) (by decide) rfl ?_
        refine x_goto (tgt := 3) dX12_goesInto_27 (by decide) ?_
        refine x_iload dX12_goesInto_3 0 rfl ?_
        refine x_bipush (v := 6) dX12_goesInto_5 (by decide) ?_
        refine x_icmp_ge (tgt := 30) dX12_goesInto_7 (by decide) (fun c_7 => absurd c_7 (by decide)) (fun c_7 => ?_)
        refine x_aload_n dX12_goesInto_10 1 rfl ?_
        refine x_iload_n dX12_goesInto_11 2 rfl ?_
        refine x_iload_n dX12_goesInto_12 3 rfl ?_
        refine x_iload_n dX12_goesInto_13 4 rfl ?_
        refine x_iload dX12_goesInto_14 0 rfl ?_
        refine x_callV (rf' := 1) (rl' := 21) [.int (nI k), .int (nI b), .int mg, .int 3] [] dX12_goesInto_16 vX12_287 Y_X12_fits f36 (by decide) rfl rfl (Nat.le_of_ble_eq_true rfl) (Nat.le_of_ble_eq_true rfl) (by decide) (by decide) (c_fits3 f36 f38 RH hk hb) (fun _ _ e104 => ?_)
        cases e104
        by_cases u3 : U3 rec mg k b 1 0 2 = true
        · rw [if_pos u3]
          refine x_if_eq (tgt := 24) dX12_goesInto_19 (by decide) (fun c_19 => absurd c_19 (by decide)) (fun c_19 => ?_)
          refine x_iconst (v := 1) dX12_goesInto_22 (by decide) ?_
          exact x_zret dX12_goesInto_23 rfl rfl (by rw [GI_U]; simp [u0, u1, u2, u3])
        · rw [if_neg u3]
          refine x_if_eq (tgt := 24) dX12_goesInto_19 (by decide) (fun c_19 => ?_) (fun c_19 => absurd (by decide) c_19)
          refine x_iinc (lv2 := [(4, .int 4), (0, .ref 36), (1, .int (nI k)), (2, .int (nI b)), (3, .int mg)]) dX12_goesInto_24 0 rfl (by decide) (by decide) rfl ?_
          refine x_goto (tgt := 3) dX12_goesInto_27 (by decide) ?_
          refine x_iload dX12_goesInto_3 0 rfl ?_
          refine x_bipush (v := 6) dX12_goesInto_5 (by decide) ?_
          refine x_icmp_ge (tgt := 30) dX12_goesInto_7 (by decide) (fun c_7 => absurd c_7 (by decide)) (fun c_7 => ?_)
          refine x_aload_n dX12_goesInto_10 1 rfl ?_
          refine x_iload_n dX12_goesInto_11 2 rfl ?_
          refine x_iload_n dX12_goesInto_12 3 rfl ?_
          refine x_iload_n dX12_goesInto_13 4 rfl ?_
          refine x_iload dX12_goesInto_14 0 rfl ?_
          refine x_callV (rf' := 1) (rl' := 21) [.int (nI k), .int (nI b), .int mg, .int 4] [] dX12_goesInto_16 vX12_287 Y_X12_fits f36 (by decide) rfl rfl (Nat.le_of_ble_eq_true rfl) (Nat.le_of_ble_eq_true rfl) (by decide) (by decide) (c_fits4 f36 f38 RH hk hb) (fun _ _ e105 => ?_)
          cases e105
          by_cases u4 : U3 rec mg k b 2 0 1 = true
          · rw [if_pos u4]
            refine x_if_eq (tgt := 24) dX12_goesInto_19 (by decide) (fun c_19 => absurd c_19 (by decide)) (fun c_19 => ?_)
            refine x_iconst (v := 1) dX12_goesInto_22 (by decide) ?_
            exact x_zret dX12_goesInto_23 rfl rfl (by rw [GI_U]; simp [u0, u1, u2, u3, u4])
          · rw [if_neg u4]
            refine x_if_eq (tgt := 24) dX12_goesInto_19 (by decide) (fun c_19 => ?_) (fun c_19 => absurd (by decide) c_19)
            refine x_iinc (lv2 := [(4, .int 5), (0, .ref 36), (1, .int (nI k)), (2, .int (nI b)), (3, .int mg)]) dX12_goesInto_24 0 rfl (by decide) (by decide) rfl ?_
            refine x_goto (tgt := 3) dX12_goesInto_27 (by decide) ?_
            refine x_iload dX12_goesInto_3 0 rfl ?_
            refine x_bipush (v := 6) dX12_goesInto_5 (by decide) ?_
            refine x_icmp_ge (tgt := 30) dX12_goesInto_7 (by decide) (fun c_7 => absurd c_7 (by decide)) (fun c_7 => ?_)
            refine x_aload_n dX12_goesInto_10 1 rfl ?_
            refine x_iload_n dX12_goesInto_11 2 rfl ?_
            refine x_iload_n dX12_goesInto_12 3 rfl ?_
            refine x_iload_n dX12_goesInto_13 4 rfl ?_
            refine x_iload dX12_goesInto_14 0 rfl ?_
            refine x_callV (rf' := 1) (rl' := 21) [.int (nI k), .int (nI b), .int mg, .int 5] [] dX12_goesInto_16 vX12_287 Y_X12_fits f36 (by decide) rfl rfl (Nat.le_of_ble_eq_true rfl) (Nat.le_of_ble_eq_true rfl) (by decide) (by decide) (c_fits5 f36 f38 RH hk hb) (fun _ _ e106 => ?_)
            cases e106
            by_cases u5 : U3 rec mg k b 2 1 0 = true
            · rw [if_pos u5]
              refine x_if_eq (tgt := 24) dX12_goesInto_19 (by decide) (fun c_19 => absurd c_19 (by decide)) (fun c_19 => ?_)
              refine x_iconst (v := 1) dX12_goesInto_22 (by decide) ?_
              exact x_zret dX12_goesInto_23 rfl rfl (by rw [GI_U]; simp [u0, u1, u2, u3, u4, u5])
            · rw [if_neg u5]
              refine x_if_eq (tgt := 24) dX12_goesInto_19 (by decide) (fun c_19 => ?_) (fun c_19 => absurd (by decide) c_19)
              refine x_iinc (lv2 := [(4, .int 6), (0, .ref 36), (1, .int (nI k)), (2, .int (nI b)), (3, .int mg)]) dX12_goesInto_24 0 rfl (by decide) (by decide) rfl ?_
              refine x_goto (tgt := 3) dX12_goesInto_27 (by decide) ?_
              refine x_iload dX12_goesInto_3 0 rfl ?_
              refine x_bipush (v := 6) dX12_goesInto_5 (by decide) ?_
              refine x_icmp_ge (tgt := 30) dX12_goesInto_7 (by decide) (fun c_7 => ?_) (fun c_7 => absurd (by decide) c_7)
              refine x_iconst (v := 0) dX12_goesInto_30 (by decide) ?_
              exact x_zret dX12_goesInto_31 rfl rfl (by rw [GI_U]; simp [u0, u1, u2, u3, u4, u5])

set_option maxRecDepth 100000 in
set_option maxHeartbeats 4000000 in
theorem l_costI {G : GT} {h : List PE} {thr tpd tdy bks siz too frm knd num sgn flt plc tld lst pfo thk are brk ipd bst : Int32} {wrd : Int64} {bk rec : Nat → Int32} {nw nt nb q : Nat} {mg : Int32} (f36 : h[36]? = some (cO 12 (MO thr tpd tdy bks siz too frm knd num sgn flt plc wrd tld ((nI nw)) lst pfo thk are brk ipd bst))) (f38 : h[38]? = some (cI 10164 bk)) (RH : nw + 484 ≤ 10164 ∧ ∀ j, j < 484 → bk (nw + j) = rec j) (ht : nt ≤ 8) (hb : nb ≤ 8) (hq : q < 256) (r1 : rec 1 = nI nt) (r2 : rec 2 = nI nb) {Q : OT → Prop} {i : Nat} {sm : Int32} (hi : i < nt) : ∀ (m j : Nat) (b : Int32), nb - j = m → j ≤ nb → X (NF G) G mX12_costOf 3 75 93 [(5, .int (chF (fun j => Nat.testBit q j && GI rec mg i j) (fun j => rec (356 + 6 * j + 3)) m j b)), (4, .int (nI i)), (3, .int sm), (0, .ref 36), (1, .int (nI q)), (2, .int mg)] [] h Q → X (NF G) G mX12_costOf 3 75 21 [(6, .int (nI j)), (5, .int b), (4, .int (nI i)), (3, .int sm), (0, .ref 36), (1, .int (nI q)), (2, .int mg)] [] h Q := by
  intro m
  induction m with
  | zero =>
    intro j b hm hj KX
    refine x_iload dX12_costOf_21 0 rfl ?_
    refine x_aload_n dX12_costOf_23 4 rfl ?_
    refine x_iconst (v := 2) dX12_costOf_24 (by decide) ?_
    refine x_callV (rf' := 0) (rl' := 0) [.int 2] [.int (nI j)] dX12_costOf_25 vX12_217 Y_X12_of f36 (by decide) rfl rfl (Nat.le_of_ble_eq_true rfl) (Nat.le_of_ble_eq_true rfl) (by decide) (by decide) (c_ofR (k := 2) f36 f38 RH (by decide)) (fun _ _ e101 => ?_)
    cases e101
    rw [r2]
    refine x_icmp_geN (tgt := 93) (a := j) (b := nb) (by omega) (by omega) dX12_costOf_28 (by decide) (fun c_28 => ?_) (fun c_28 => absurd (by omega) c_28)
    refine x_perm [1, 2, 3, 4, 5, 6] rfl ?_
    exact KX
  | succ m ih =>
    intro j b hm hj KX
    have bt := bit_at q hq j (by omega)
    refine x_iload dX12_costOf_21 0 rfl ?_
    refine x_aload_n dX12_costOf_23 4 rfl ?_
    refine x_iconst (v := 2) dX12_costOf_24 (by decide) ?_
    refine x_callV (rf' := 0) (rl' := 0) [.int 2] [.int (nI j)] dX12_costOf_25 vX12_217 Y_X12_of f36 (by decide) rfl rfl (Nat.le_of_ble_eq_true rfl) (Nat.le_of_ble_eq_true rfl) (by decide) (by decide) (c_ofR (k := 2) f36 f38 RH (by decide)) (fun _ _ e101 => ?_)
    cases e101
    rw [r2]
    refine x_icmp_geN (tgt := 93) (a := j) (b := nb) (by omega) (by omega) dX12_costOf_28 (by decide) (fun c_28 => absurd c_28 (by omega)) (fun c_28 => ?_)
    refine x_aload_n dX12_costOf_31 4 rfl ?_
    refine x_sipush (v := 356) dX12_costOf_32 (by decide) ?_
    refine x_bipush (v := 6) dX12_costOf_35 (by decide) ?_
    refine x_iload dX12_costOf_37 0 rfl ?_
    refine x_imulN (a := 6) (b := j) dX12_costOf_39 ?_
    refine x_iaddN (a := 356) (b := (6 * j)) dX12_costOf_40 ?_
    refine x_iconst (v := 3) dX12_costOf_41 (by decide) ?_
    refine x_iaddN (a := (356 + (6 * j))) (b := 3) dX12_costOf_42 ?_
    refine x_callV (rf' := 0) (rl' := 0) [.int (nI ((356 + (6 * j)) + 3))] [] dX12_costOf_43 vX12_217 Y_X12_of f36 (by decide) rfl rfl (Nat.le_of_ble_eq_true rfl) (Nat.le_of_ble_eq_true rfl) (by decide) (by decide) (c_ofR (k := ((356 + (6 * j)) + 3)) f36 f38 RH (by omega)) (fun _ _ e102 => ?_)
    cases e102
    refine x_istore (lv2 := [(7, .int (rec (((356 + (6 * j)) + 3)))), (6, .int (nI j)), (5, .int b), (4, .int (nI i)), (3, .int sm), (0, .ref 36), (1, .int (nI q)), (2, .int mg)]) dX12_costOf_46 (by decide) rfl ?_
    refine x_iload_n dX12_costOf_48 6 rfl ?_
    refine x_iload dX12_costOf_49 1 rfl ?_
    refine x_ishr dX12_costOf_51 ?_
    refine x_iconst (v := 1) dX12_costOf_52 (by decide) ?_
    refine x_iand dX12_costOf_53 ?_
    refine x_iconst (v := 1) dX12_costOf_54 (by decide) ?_
    refine x_icmp_ne (tgt := 87) dX12_costOf_55 (by decide) (fun c_55 => ?_) (fun c_55 => ?_)
    · refine x_iincN (lv2 := [(6, .int (nI (j + 1))), (7, .int (rec (((356 + (6 * j)) + 3)))), (5, .int b), (4, .int (nI i)), (3, .int sm), (0, .ref 36), (1, .int (nI q)), (2, .int mg)]) dX12_costOf_87 1 rfl (by decide) rfl ?_
      refine x_goto (tgt := 21) dX12_costOf_90 (by decide) ?_
      refine x_perm [0, 2, 3, 4, 5, 6, 7] rfl ?_
      have eS : (if (fun j => Nat.testBit q j && GI rec mg i j) j = true ∧ (b = -1 ∨ (fun j => rec (356 + 6 * j + 3)) j < b) then (fun j => rec (356 + 6 * j + 3)) j else b) = b := if_neg (fun z => c_55 (bt.mpr (Bool.and_eq_true_iff.mp z.1).1))
      refine ih (j + 1) b (by omega) (by omega) ?_
      rw [chF, eS] at KX
      exact KX
    · refine x_iload dX12_costOf_58 2 rfl ?_
      refine x_iconst (v := (-1)) dX12_costOf_60 (by decide) ?_
      refine x_icmp_eq (tgt := 71) dX12_costOf_61 (by decide) (fun c_61 => ?_) (fun c_61 => ?_)
      · refine x_aload_n dX12_costOf_71 5 rfl ?_
        refine x_iload dX12_costOf_72 3 rfl ?_
        refine x_iload dX12_costOf_74 1 rfl ?_
        refine x_iload_n dX12_costOf_76 7 rfl ?_
        refine x_callV (rf' := 2) (rl' := 51) [.int (nI i), .int (nI j), .int mg] [] dX12_costOf_77 vX12_296 Y_X12_goesInto f36 (by decide) rfl rfl (Nat.le_of_ble_eq_true rfl) (Nat.le_of_ble_eq_true rfl) (by decide) (by decide) (c_goesIntoM f36 f38 RH (by omega) (by omega)) (fun _ _ e9 => ?_)
        cases e9
        by_cases hg : GI rec mg i j = true
        · rw [if_pos hg]
          refine x_if_eq (tgt := 87) dX12_costOf_80 (by decide) (fun c_80 => absurd c_80 (by decide)) (fun c_80 => ?_)
          refine x_iload dX12_costOf_83 0 rfl ?_
          refine x_istore (lv2 := [(5, .int (rec (((356 + (6 * j)) + 3)))), (7, .int (rec (((356 + (6 * j)) + 3)))), (6, .int (nI j)), (4, .int (nI i)), (3, .int sm), (0, .ref 36), (1, .int (nI q)), (2, .int mg)]) dX12_costOf_85 (by decide) rfl ?_
          refine x_iincN (lv2 := [(6, .int (nI (j + 1))), (5, .int (rec (((356 + (6 * j)) + 3)))), (7, .int (rec (((356 + (6 * j)) + 3)))), (4, .int (nI i)), (3, .int sm), (0, .ref 36), (1, .int (nI q)), (2, .int mg)]) dX12_costOf_87 2 rfl (by decide) rfl ?_
          refine x_goto (tgt := 21) dX12_costOf_90 (by decide) ?_
          refine x_perm [0, 1, 3, 4, 5, 6, 7] rfl ?_
          have eS : (if (fun j => Nat.testBit q j && GI rec mg i j) j = true ∧ (b = -1 ∨ (fun j => rec (356 + 6 * j + 3)) j < b) then (fun j => rec (356 + 6 * j + 3)) j else b) = (rec (356 + 6 * j + 3)) := if_pos ⟨Bool.and_eq_true_iff.mpr ⟨bt.mp c_55, hg⟩, Or.inl c_61⟩
          refine ih (j + 1) (rec (356 + 6 * j + 3)) (by omega) (by omega) ?_
          rw [chF, eS] at KX
          exact KX
        · rw [if_neg hg]
          refine x_if_eq (tgt := 87) dX12_costOf_80 (by decide) (fun c_80 => ?_) (fun c_80 => absurd (by decide) c_80)
          refine x_iincN (lv2 := [(6, .int (nI (j + 1))), (7, .int (rec (((356 + (6 * j)) + 3)))), (5, .int b), (4, .int (nI i)), (3, .int sm), (0, .ref 36), (1, .int (nI q)), (2, .int mg)]) dX12_costOf_87 1 rfl (by decide) rfl ?_
          refine x_goto (tgt := 21) dX12_costOf_90 (by decide) ?_
          refine x_perm [0, 2, 3, 4, 5, 6, 7] rfl ?_
          have eS : (if (fun j => Nat.testBit q j && GI rec mg i j) j = true ∧ (b = -1 ∨ (fun j => rec (356 + 6 * j + 3)) j < b) then (fun j => rec (356 + 6 * j + 3)) j else b) = b := if_neg (fun z => hg (Bool.and_eq_true_iff.mp z.1).2)
          refine ih (j + 1) b (by omega) (by omega) ?_
          rw [chF, eS] at KX
          exact KX
      · refine x_iload dX12_costOf_64 0 rfl ?_
        refine x_iload dX12_costOf_66 2 rfl ?_
        refine x_icmp_ge (tgt := 87) dX12_costOf_68 (by decide) (fun c_68 => ?_) (fun c_68 => ?_)
        · refine x_iincN (lv2 := [(6, .int (nI (j + 1))), (7, .int (rec (((356 + (6 * j)) + 3)))), (5, .int b), (4, .int (nI i)), (3, .int sm), (0, .ref 36), (1, .int (nI q)), (2, .int mg)]) dX12_costOf_87 1 rfl (by decide) rfl ?_
          refine x_goto (tgt := 21) dX12_costOf_90 (by decide) ?_
          refine x_perm [0, 2, 3, 4, 5, 6, 7] rfl ?_
          have eS : (if (fun j => Nat.testBit q j && GI rec mg i j) j = true ∧ (b = -1 ∨ (fun j => rec (356 + 6 * j + 3)) j < b) then (fun j => rec (356 + 6 * j + 3)) j else b) = b := if_neg (fun z => z.2.elim c_61 (fun y => absurd c_68 (Int32.not_le.mpr y)))
          refine ih (j + 1) b (by omega) (by omega) ?_
          rw [chF, eS] at KX
          exact KX
        · refine x_aload_n dX12_costOf_71 5 rfl ?_
          refine x_iload dX12_costOf_72 3 rfl ?_
          refine x_iload dX12_costOf_74 1 rfl ?_
          refine x_iload_n dX12_costOf_76 7 rfl ?_
          refine x_callV (rf' := 2) (rl' := 51) [.int (nI i), .int (nI j), .int mg] [] dX12_costOf_77 vX12_296 Y_X12_goesInto f36 (by decide) rfl rfl (Nat.le_of_ble_eq_true rfl) (Nat.le_of_ble_eq_true rfl) (by decide) (by decide) (c_goesIntoM f36 f38 RH (by omega) (by omega)) (fun _ _ e9 => ?_)
          cases e9
          by_cases hg : GI rec mg i j = true
          · rw [if_pos hg]
            refine x_if_eq (tgt := 87) dX12_costOf_80 (by decide) (fun c_80 => absurd c_80 (by decide)) (fun c_80 => ?_)
            refine x_iload dX12_costOf_83 0 rfl ?_
            refine x_istore (lv2 := [(5, .int (rec (((356 + (6 * j)) + 3)))), (7, .int (rec (((356 + (6 * j)) + 3)))), (6, .int (nI j)), (4, .int (nI i)), (3, .int sm), (0, .ref 36), (1, .int (nI q)), (2, .int mg)]) dX12_costOf_85 (by decide) rfl ?_
            refine x_iincN (lv2 := [(6, .int (nI (j + 1))), (5, .int (rec (((356 + (6 * j)) + 3)))), (7, .int (rec (((356 + (6 * j)) + 3)))), (4, .int (nI i)), (3, .int sm), (0, .ref 36), (1, .int (nI q)), (2, .int mg)]) dX12_costOf_87 2 rfl (by decide) rfl ?_
            refine x_goto (tgt := 21) dX12_costOf_90 (by decide) ?_
            refine x_perm [0, 1, 3, 4, 5, 6, 7] rfl ?_
            have eS : (if (fun j => Nat.testBit q j && GI rec mg i j) j = true ∧ (b = -1 ∨ (fun j => rec (356 + 6 * j + 3)) j < b) then (fun j => rec (356 + 6 * j + 3)) j else b) = (rec (356 + 6 * j + 3)) := if_pos ⟨Bool.and_eq_true_iff.mpr ⟨bt.mp c_55, hg⟩, Or.inr (Int32.not_le.mp c_68)⟩
            refine ih (j + 1) (rec (356 + 6 * j + 3)) (by omega) (by omega) ?_
            rw [chF, eS] at KX
            exact KX
          · rw [if_neg hg]
            refine x_if_eq (tgt := 87) dX12_costOf_80 (by decide) (fun c_80 => ?_) (fun c_80 => absurd (by decide) c_80)
            refine x_iincN (lv2 := [(6, .int (nI (j + 1))), (7, .int (rec (((356 + (6 * j)) + 3)))), (5, .int b), (4, .int (nI i)), (3, .int sm), (0, .ref 36), (1, .int (nI q)), (2, .int mg)]) dX12_costOf_87 1 rfl (by decide) rfl ?_
            refine x_goto (tgt := 21) dX12_costOf_90 (by decide) ?_
            refine x_perm [0, 2, 3, 4, 5, 6, 7] rfl ?_
            have eS : (if (fun j => Nat.testBit q j && GI rec mg i j) j = true ∧ (b = -1 ∨ (fun j => rec (356 + 6 * j + 3)) j < b) then (fun j => rec (356 + 6 * j + 3)) j else b) = b := if_neg (fun z => hg (Bool.and_eq_true_iff.mp z.1).2)
            refine ih (j + 1) b (by omega) (by omega) ?_
            rw [chF, eS] at KX
            exact KX

set_option maxRecDepth 100000 in
set_option maxHeartbeats 4000000 in
theorem l_costM {G : GT} {h : List PE} {thr tpd tdy bks siz too frm knd num sgn flt plc tld lst pfo thk are brk ipd bst : Int32} {wrd : Int64} {bk rec : Nat → Int32} {nw nt nb q : Nat} {mg : Int32} (f36 : h[36]? = some (cO 12 (MO thr tpd tdy bks siz too frm knd num sgn flt plc wrd tld ((nI nw)) lst pfo thk are brk ipd bst))) (f38 : h[38]? = some (cI 10164 bk)) (RH : nw + 484 ≤ 10164 ∧ ∀ j, j < 484 → bk (nw + j) = rec j) (ht : nt ≤ 8) (hb : nb ≤ 8) (hq : q < 256) (r1 : rec 1 = nI nt) (r2 : rec 2 = nI nb)  : ∀ (m i : Nat) (b : Int32), nt - i = m → i ≤ nt → X (NF G) G mX12_costOf 3 75 5 [(4, .int (nI i)), (3, .int b), (0, .ref 36), (1, .int (nI q)), (2, .int mg)] [] h (fun o => o = (some (.int (coF (bxC rec mg nb q) m i b)), h)) := by
  intro m
  induction m with
  | zero =>
    intro i b hm hj
    refine x_iload dX12_costOf_5 0 rfl ?_
    refine x_aload_n dX12_costOf_7 2 rfl ?_
    refine x_iconst (v := 1) dX12_costOf_8 (by decide) ?_
    refine x_callV (rf' := 0) (rl' := 0) [.int 1] [.int (nI i)] dX12_costOf_9 vX12_217 Y_X12_of f36 (by decide) rfl rfl (Nat.le_of_ble_eq_true rfl) (Nat.le_of_ble_eq_true rfl) (by decide) (by decide) (c_ofR (k := 1) f36 f38 RH (by decide)) (fun _ _ e101 => ?_)
    cases e101
    rw [r1]
    refine x_icmp_geN (tgt := 112) (a := i) (b := nt) (by omega) (by omega) dX12_costOf_12 (by decide) (fun c_12 => ?_) (fun c_12 => absurd (by omega) c_12)
    refine x_iload_n dX12_costOf_112 1 rfl ?_
    exact x_iret dX12_costOf_113 rfl rfl
  | succ m ih =>
    intro i b hm hj
    refine x_iload dX12_costOf_5 0 rfl ?_
    refine x_aload_n dX12_costOf_7 2 rfl ?_
    refine x_iconst (v := 1) dX12_costOf_8 (by decide) ?_
    refine x_callV (rf' := 0) (rl' := 0) [.int 1] [.int (nI i)] dX12_costOf_9 vX12_217 Y_X12_of f36 (by decide) rfl rfl (Nat.le_of_ble_eq_true rfl) (Nat.le_of_ble_eq_true rfl) (by decide) (by decide) (c_ofR (k := 1) f36 f38 RH (by decide)) (fun _ _ e101 => ?_)
    cases e101
    rw [r1]
    refine x_icmp_geN (tgt := 112) (a := i) (b := nt) (by omega) (by omega) dX12_costOf_12 (by decide) (fun c_12 => absurd c_12 (by omega)) (fun c_12 => ?_)
    refine x_iconst (v := (-1)) dX12_costOf_15 (by decide) ?_
    refine x_istore (lv2 := [(5, .int (-1)), (4, .int (nI i)), (3, .int b), (0, .ref 36), (1, .int (nI q)), (2, .int mg)]) dX12_costOf_16 (by decide) rfl ?_
    refine x_iconst (v := 0) dX12_costOf_18 (by decide) ?_
    refine x_istore (lv2 := [(6, .int 0), (5, .int (-1)), (4, .int (nI i)), (3, .int b), (0, .ref 36), (1, .int (nI q)), (2, .int mg)]) dX12_costOf_19 (by decide) rfl ?_
    refine x_perm (lv2 := [(6, .int (nI 0)), (5, .int (-1)), (4, .int (nI i)), (3, .int b), (0, .ref 36), (1, .int (nI q)), (2, .int mg)]) [0, 1, 2, 3, 4, 5, 6] rfl ?_
    refine l_costI f36 f38 RH ht hb hq r1 r2 (by omega) nb 0 (-1) rfl (by omega) ?_
    change X _ _ _ _ _ _ [(5, .int (bxC rec mg nb q i)), (4, .int (nI i)), (3, .int b), (0, .ref 36), (1, .int (nI q)), (2, .int mg)] _ _ _
    refine x_iload dX12_costOf_93 0 rfl ?_
    refine x_iconst (v := (-1)) dX12_costOf_95 (by decide) ?_
    refine x_icmp_ne (tgt := 101) dX12_costOf_96 (by decide) (fun c_96 => ?_) (fun c_96 => ?_)
    · refine x_iload_n dX12_costOf_101 2 rfl ?_
      refine x_iload dX12_costOf_102 0 rfl ?_
      refine x_iadd dX12_costOf_104 ?_
      refine x_istore_n (lv2 := [(3, .int (b + (bxC rec mg nb q i))), (5, .int (bxC rec mg nb q i)), (4, .int (nI i)), (0, .ref 36), (1, .int (nI q)), (2, .int mg)]) dX12_costOf_105 (by decide) rfl ?_
      refine x_iincN (lv2 := [(4, .int (nI (i + 1))), (3, .int (b + (bxC rec mg nb q i))), (5, .int (bxC rec mg nb q i)), (0, .ref 36), (1, .int (nI q)), (2, .int mg)]) dX12_costOf_106 2 rfl (by decide) rfl ?_
      refine x_goto (tgt := 5) dX12_costOf_109 (by decide) ?_
      refine x_perm [0, 1, 3, 4, 5] rfl ?_
      exact (ih (i + 1) _ (by omega) (by omega)).weaken (fun o ho => by rw [ho, coF, if_neg c_96])
    · refine x_iconst (v := (-1)) dX12_costOf_99 (by decide) ?_
      exact x_iret dX12_costOf_100 rfl (by rw [coF, if_pos c_96])

set_option maxRecDepth 100000 in
set_option maxHeartbeats 4000000 in
theorem c_costOfM {G : GT} {h : List PE} {thr tpd tdy bks siz too frm knd num sgn flt plc tld lst pfo thk are brk ipd bst : Int32} {wrd : Int64} {bk rec : Nat → Int32} {nw nt nb q : Nat} {mg : Int32} (f36 : h[36]? = some (cO 12 (MO thr tpd tdy bks siz too frm knd num sgn flt plc wrd tld ((nI nw)) lst pfo thk are brk ipd bst))) (f38 : h[38]? = some (cI 10164 bk)) (RH : nw + 484 ≤ 10164 ∧ ∀ j, j < 484 → bk (nw + j) = rec j) (ht : nt ≤ 8) (hb : nb ≤ 8) (hq : q < 256) (r1 : rec 1 = nI nt) (r2 : rec 2 = nI nb)  : CT G mX12_costOf 3 75 [.ref 36, .int (nI q), .int mg] h (fun o => o = (some (.int (bxS rec mg nt nb q)), h)) := by
  show X (NF G) G mX12_costOf 3 75 0 [(0, .ref 36), (1, .int (nI q)), (2, .int mg)] [] h _
  refine x_iconst (v := 0) dX12_costOf_0 (by decide) ?_
  refine x_istore_n (lv2 := [(3, .int 0), (0, .ref 36), (1, .int (nI q)), (2, .int mg)]) dX12_costOf_1 (by decide) rfl ?_
  refine x_iconst (v := 0) dX12_costOf_2 (by decide) ?_
  refine x_istore (lv2 := [(4, .int 0), (3, .int 0), (0, .ref 36), (1, .int (nI q)), (2, .int mg)]) dX12_costOf_3 (by decide) rfl ?_
  refine x_perm (lv2 := [(4, .int (nI 0)), (3, .int 0), (0, .ref 36), (1, .int (nI q)), (2, .int mg)]) [0, 1, 2, 3, 4] rfl ?_
  exact l_costM f36 f38 RH ht hb hq r1 r2 nt 0 0 rfl (by omega)

set_option maxRecDepth 100000 in
set_option maxHeartbeats 4000000 in
theorem l_many {G : GT} {h : List PE} {thr tpd tdy bks siz too frm knd num sgn flt plc tld lst pfo thk are brk ipd bst : Int32} {wrd : Int64} {bk rec : Nat → Int32} {nw nt nb : Nat} {mg most : Int32} (f36 : h[36]? = some (cO 12 (MO thr tpd tdy bks siz too frm knd num sgn flt plc wrd tld ((nI nw)) lst pfo thk are brk ipd bst))) (f38 : h[38]? = some (cI 10164 bk)) (RH : nw + 484 ≤ 10164 ∧ ∀ j, j < 484 → bk (nw + j) = rec j) (ht : nt ≤ 8) (hb : nb ≤ 8) (r1 : rec 1 = nI nt) (r2 : rec 2 = nI nb) {Q : OT → Prop} {q : Nat} {s : Int32 × Nat} (hq : q < 256) (KX : X (NF G) G mX12_boxes 4 102 100 [(7, .int (nI (popN nb q))), (6, .int (nI q)), (5, .int (nI s.2)), (4, .int s.1), (0, .ref 36), (1, .int mg), (2, .int most)] [] h Q) : ∀ (m j : Nat), nb - j = m → j ≤ nb → X (NF G) G mX12_boxes 4 102 72 [(8, .int (nI j)), (7, .int (nI (popN j q))), (6, .int (nI q)), (5, .int (nI s.2)), (4, .int s.1), (0, .ref 36), (1, .int mg), (2, .int most)] [] h Q := by
  intro m
  induction m with
  | zero =>
    intro j hm hj
    have e : j = nb := by omega
    refine x_iload dX12_boxes_72 0 rfl ?_
    refine x_aload_n dX12_boxes_74 5 rfl ?_
    refine x_iconst (v := 2) dX12_boxes_75 (by decide) ?_
    refine x_callV (rf' := 0) (rl' := 0) [.int 2] [.int (nI j)] dX12_boxes_76 vX12_217 Y_X12_of f36 (by decide) rfl rfl (Nat.le_of_ble_eq_true rfl) (Nat.le_of_ble_eq_true rfl) (by decide) (by decide) (c_ofR (k := 2) f36 f38 RH (by decide)) (fun _ _ e101 => ?_)
    cases e101
    rw [r2]
    refine x_icmp_geN (tgt := 100) (a := j) (b := nb) (by omega) (by omega) dX12_boxes_79 (by decide) (fun c_79 => ?_) (fun c_79 => absurd (by omega) c_79)
    refine x_perm [1, 2, 3, 4, 5, 6, 7] rfl ?_
    rw [e]; exact KX
  | succ m ih =>
    intro j hm hj
    refine x_iload dX12_boxes_72 0 rfl ?_
    refine x_aload_n dX12_boxes_74 5 rfl ?_
    refine x_iconst (v := 2) dX12_boxes_75 (by decide) ?_
    refine x_callV (rf' := 0) (rl' := 0) [.int 2] [.int (nI j)] dX12_boxes_76 vX12_217 Y_X12_of f36 (by decide) rfl rfl (Nat.le_of_ble_eq_true rfl) (Nat.le_of_ble_eq_true rfl) (by decide) (by decide) (c_ofR (k := 2) f36 f38 RH (by decide)) (fun _ _ e101 => ?_)
    cases e101
    rw [r2]
    refine x_icmp_geN (tgt := 100) (a := j) (b := nb) (by omega) (by omega) dX12_boxes_79 (by decide) (fun c_79 => absurd c_79 (by omega)) (fun c_79 => ?_)
    refine x_iload dX12_boxes_82 1 rfl ?_
    refine x_iload dX12_boxes_84 2 rfl ?_
    refine x_iload dX12_boxes_86 0 rfl ?_
    refine x_ishr dX12_boxes_88 ?_
    refine x_iconst (v := 1) dX12_boxes_89 (by decide) ?_
    refine x_iand dX12_boxes_90 ?_
    rw [bit_no q hq j (by omega)]
    refine x_iaddN (a := (popN j q)) (b := (if Nat.testBit q j = true then 1 else 0)) dX12_boxes_91 ?_
    refine x_istore (lv2 := [(7, .int (nI ((popN j q) + (if Nat.testBit q j = true then 1 else 0)))), (8, .int (nI j)), (6, .int (nI q)), (5, .int (nI s.2)), (4, .int s.1), (0, .ref 36), (1, .int mg), (2, .int most)]) dX12_boxes_92 (by decide) rfl ?_
    refine x_iincN (lv2 := [(8, .int (nI (j + 1))), (7, .int (nI ((popN j q) + (if Nat.testBit q j = true then 1 else 0)))), (6, .int (nI q)), (5, .int (nI s.2)), (4, .int s.1), (0, .ref 36), (1, .int mg), (2, .int most)]) dX12_boxes_94 1 rfl (by decide) rfl ?_
    refine x_goto (tgt := 72) dX12_boxes_97 (by decide) ?_
    refine x_perm (lv2 := [(8, .int (nI (j + 1))), (7, .int (nI (popN (j + 1) q))), (6, .int (nI q)), (5, .int (nI s.2)), (4, .int s.1), (0, .ref 36), (1, .int mg), (2, .int most)]) [0, 1, 2, 3, 4, 5, 6, 7] rfl ?_
    exact ih (j + 1) (by omega) (by omega)

set_option maxRecDepth 100000 in
set_option maxHeartbeats 4000000 in
theorem l_sets {G : GT} {h : List PE} {thr tpd tdy bks siz too frm knd num sgn flt plc tld lst pfo thk are brk ipd bst : Int32} {wrd : Int64} {bk rec : Nat → Int32} {nw nt nb : Nat} {mg most : Int32} (f36 : h[36]? = some (cO 12 (MO thr tpd tdy bks siz too frm knd num sgn flt plc wrd tld ((nI nw)) lst pfo thk are brk ipd bst))) (f38 : h[38]? = some (cI 10164 bk)) (RH : nw + 484 ≤ 10164 ∧ ∀ j, j < 484 → bk (nw + j) = rec j) (ht : nt ≤ 8) (hb : nb ≤ 8) (r1 : rec 1 = nI nt) (r2 : rec 2 = nI nb)  : ∀ (m q : Nat) (s : Int32 × Nat), 2 ^ nb - q = m → q ≤ 2 ^ nb → X (NF G) G mX12_boxes 4 102 54 [(6, .int (nI q)), (5, .int (nI s.2)), (4, .int s.1), (0, .ref 36), (1, .int mg), (2, .int most)] [] h (fun o => o.1 = some (.int (boF (bxS rec mg nt nb) nb most m q s).1) ∧ o.2[36]? = some (cO 12 (MO thr tpd tdy bks siz too frm knd num sgn flt plc wrd tld ((nI nw)) lst pfo thk are brk ipd ((if (boF (bxS rec mg nt nb) nb most m q s).1 = -1 then bst else nI (boF (bxS rec mg nt nb) nb most m q s).2)))) ∧ Sm [36] h o.2) := by
  have h2 := two_le nb hb
  have sm0 : Sm [36] h h := Sm.rf
  intro m
  induction m with
  | zero =>
    intro q s hm hj
    refine x_iload dX12_boxes_54 0 rfl ?_
    refine x_iconst (v := 1) dX12_boxes_56 (by decide) ?_
    refine x_aload_n dX12_boxes_57 3 rfl ?_
    refine x_iconst (v := 2) dX12_boxes_58 (by decide) ?_
    refine x_callV (rf' := 0) (rl' := 0) [.int 2] [.int 1, .int (nI q)] dX12_boxes_59 vX12_217 Y_X12_of f36 (by decide) rfl rfl (Nat.le_of_ble_eq_true rfl) (Nat.le_of_ble_eq_true rfl) (by decide) (by decide) (c_ofR (k := 2) f36 f38 RH (by decide)) (fun _ _ e101 => ?_)
    cases e101
    rw [r2]
    refine x_ishl dX12_boxes_62 ?_
    rw [bit_sh nb hb]
    refine x_icmp_geN (tgt := 154) (a := q) (b := (2 ^ nb)) (by omega) (by omega) dX12_boxes_63 (by decide) (fun c_63 => ?_) (fun c_63 => absurd (by omega) c_63)
    refine x_iload dX12_boxes_154 2 rfl ?_
    refine x_iconst (v := (-1)) dX12_boxes_156 (by decide) ?_
    refine x_icmp_eq (tgt := 166) dX12_boxes_157 (by decide) (fun c_157 => ?_) (fun c_157 => ?_)
    · refine x_iload dX12_boxes_166 2 rfl ?_
      exact x_iret dX12_boxes_168 rfl ⟨rfl, by rw [show boF (bxS rec mg nt nb) nb most 0 q s = s from rfl, if_pos c_157]; exact f36, sm0⟩
    · refine x_aload_n dX12_boxes_160 3 rfl ?_
      refine x_iload dX12_boxes_161 1 rfl ?_
      refine x_put (fs2 := (MO thr tpd tdy bks siz too frm knd num sgn flt plc wrd tld ((nI nw)) lst pfo thk are brk ipd ((nI s.2)))) dX12_boxes_163 fX12_293 (Or.inl rfl) f36 (by decide) rfl rfl (Nat.le_of_ble_eq_true rfl) rfl (fun h102 a103 e104 l105 s106 => ?_)
      have f107 := (e104 38 (by decide)).trans f38
      have sm108 := Sm.put sm0 e104 l105 s106 (by decide)
      refine x_iload dX12_boxes_166 2 rfl ?_
      exact x_iret dX12_boxes_168 rfl ⟨rfl, by rw [show boF (bxS rec mg nt nb) nb most 0 q s = s from rfl, if_neg c_157]; exact a103, sm108⟩
  | succ m ih =>
    intro q s hm hj
    refine x_iload dX12_boxes_54 0 rfl ?_
    refine x_iconst (v := 1) dX12_boxes_56 (by decide) ?_
    refine x_aload_n dX12_boxes_57 3 rfl ?_
    refine x_iconst (v := 2) dX12_boxes_58 (by decide) ?_
    refine x_callV (rf' := 0) (rl' := 0) [.int 2] [.int 1, .int (nI q)] dX12_boxes_59 vX12_217 Y_X12_of f36 (by decide) rfl rfl (Nat.le_of_ble_eq_true rfl) (Nat.le_of_ble_eq_true rfl) (by decide) (by decide) (c_ofR (k := 2) f36 f38 RH (by decide)) (fun _ _ e101 => ?_)
    cases e101
    rw [r2]
    refine x_ishl dX12_boxes_62 ?_
    rw [bit_sh nb hb]
    refine x_icmp_geN (tgt := 154) (a := q) (b := (2 ^ nb)) (by omega) (by omega) dX12_boxes_63 (by decide) (fun c_63 => absurd c_63 (by omega)) (fun c_63 => ?_)
    refine x_iconst (v := 0) dX12_boxes_66 (by decide) ?_
    refine x_istore (lv2 := [(7, .int 0), (6, .int (nI q)), (5, .int (nI s.2)), (4, .int s.1), (0, .ref 36), (1, .int mg), (2, .int most)]) dX12_boxes_67 (by decide) rfl ?_
    refine x_iconst (v := 0) dX12_boxes_69 (by decide) ?_
    refine x_istore (lv2 := [(8, .int 0), (7, .int 0), (6, .int (nI q)), (5, .int (nI s.2)), (4, .int s.1), (0, .ref 36), (1, .int mg), (2, .int most)]) dX12_boxes_70 (by decide) rfl ?_
    refine x_perm (lv2 := [(8, .int (nI 0)), (7, .int (nI (popN 0 q))), (6, .int (nI q)), (5, .int (nI s.2)), (4, .int s.1), (0, .ref 36), (1, .int mg), (2, .int most)]) [0, 1, 2, 3, 4, 5, 6, 7] rfl ?_
    refine l_many f36 f38 RH ht hb r1 r2 (by omega) ?_ nb 0 rfl (by omega)
    refine x_iload dX12_boxes_100 0 rfl ?_
    refine x_iload_n dX12_boxes_102 6 rfl ?_
    refine x_icmp_le (tgt := 109) dX12_boxes_103 (by decide) (fun c_103 => ?_) (fun c_103 => ?_)
    · refine x_aload_n dX12_boxes_109 4 rfl ?_
      refine x_iload dX12_boxes_110 1 rfl ?_
      refine x_iload_n dX12_boxes_112 5 rfl ?_
      refine x_callV (rf' := 3) (rl' := 75) [.int (nI q), .int mg] [] dX12_boxes_113 vX12_290 Y_X12_costOf f36 (by decide) rfl rfl (Nat.le_of_ble_eq_true rfl) (Nat.le_of_ble_eq_true rfl) (by decide) (by decide) (c_costOfM f36 f38 RH ht hb (by omega) r1 r2) (fun _ _ e9 => ?_)
      cases e9
      refine x_istore (lv2 := [(8, .int (bxS rec mg nt nb q)), (7, .int (nI (popN nb q))), (6, .int (nI q)), (5, .int (nI s.2)), (4, .int s.1), (0, .ref 36), (1, .int mg), (2, .int most)]) dX12_boxes_116 (by decide) rfl ?_
      refine x_iload dX12_boxes_118 0 rfl ?_
      refine x_iconst (v := (-1)) dX12_boxes_120 (by decide) ?_
      refine x_icmp_eq (tgt := 148) dX12_boxes_121 (by decide) (fun c_121 => ?_) (fun c_121 => ?_)
      · refine x_iincN (lv2 := [(6, .int (nI (q + 1))), (8, .int (bxS rec mg nt nb q)), (7, .int (nI (popN nb q))), (5, .int (nI s.2)), (4, .int s.1), (0, .ref 36), (1, .int mg), (2, .int most)]) dX12_boxes_148 2 rfl (by decide) rfl ?_
        refine x_goto (tgt := 54) dX12_boxes_151 (by decide) ?_
        refine x_perm (lv2 := [(6, .int (nI (q + 1))), (5, .int (nI s.2)), (4, .int s.1), (0, .ref 36), (1, .int mg), (2, .int most)]) [0, 3, 4, 5, 6, 7] rfl ?_
        have eS : (if boC (bxS rec mg nt nb) nb most q s then (bxS rec mg nt nb q, q) else s) = s := if_neg (fun z => z.2.1 c_121)
        exact (ih (q + 1) s (by omega) (by omega)).weaken (fun o ho => by rw [boF, eS]; exact ho)
      · refine x_iload dX12_boxes_124 4 rfl ?_
        refine x_iconst (v := (-1)) dX12_boxes_126 (by decide) ?_
        refine x_icmp_eq (tgt := 140) dX12_boxes_127 (by decide) (fun c_127 => ?_) (fun c_127 => ?_)
        · refine x_iload dX12_boxes_140 0 rfl ?_
          refine x_istore (lv2 := [(4, .int (bxS rec mg nt nb q)), (8, .int (bxS rec mg nt nb q)), (7, .int (nI (popN nb q))), (6, .int (nI q)), (5, .int (nI s.2)), (0, .ref 36), (1, .int mg), (2, .int most)]) dX12_boxes_142 (by decide) rfl ?_
          refine x_iload dX12_boxes_144 3 rfl ?_
          refine x_istore (lv2 := [(5, .int (nI q)), (4, .int (bxS rec mg nt nb q)), (8, .int (bxS rec mg nt nb q)), (7, .int (nI (popN nb q))), (6, .int (nI q)), (0, .ref 36), (1, .int mg), (2, .int most)]) dX12_boxes_146 (by decide) rfl ?_
          refine x_iincN (lv2 := [(6, .int (nI (q + 1))), (5, .int (nI q)), (4, .int (bxS rec mg nt nb q)), (8, .int (bxS rec mg nt nb q)), (7, .int (nI (popN nb q))), (0, .ref 36), (1, .int mg), (2, .int most)]) dX12_boxes_148 4 rfl (by decide) rfl ?_
          refine x_goto (tgt := 54) dX12_boxes_151 (by decide) ?_
          refine x_perm (lv2 := [(6, .int (nI (q + 1))), (5, .int (nI (bxS rec mg nt nb q, q).2)), (4, .int (bxS rec mg nt nb q, q).1), (0, .ref 36), (1, .int mg), (2, .int most)]) [0, 1, 2, 5, 6, 7] rfl ?_
          have eS : (if boC (bxS rec mg nt nb) nb most q s then (bxS rec mg nt nb q, q) else s) = (bxS rec mg nt nb q, q) := if_pos ⟨Int32.not_lt.mpr c_103, c_121, Or.inl c_127⟩
          exact (ih (q + 1) (bxS rec mg nt nb q, q) (by omega) (by omega)).weaken (fun o ho => by rw [boF, eS]; exact ho)
        · refine x_iload dX12_boxes_130 0 rfl ?_
          refine x_iload dX12_boxes_132 4 rfl ?_
          refine x_icmp_lt (tgt := 140) dX12_boxes_134 (by decide) (fun c_134 => ?_) (fun c_134 => ?_)
          · refine x_iload dX12_boxes_140 0 rfl ?_
            refine x_istore (lv2 := [(4, .int (bxS rec mg nt nb q)), (8, .int (bxS rec mg nt nb q)), (7, .int (nI (popN nb q))), (6, .int (nI q)), (5, .int (nI s.2)), (0, .ref 36), (1, .int mg), (2, .int most)]) dX12_boxes_142 (by decide) rfl ?_
            refine x_iload dX12_boxes_144 3 rfl ?_
            refine x_istore (lv2 := [(5, .int (nI q)), (4, .int (bxS rec mg nt nb q)), (8, .int (bxS rec mg nt nb q)), (7, .int (nI (popN nb q))), (6, .int (nI q)), (0, .ref 36), (1, .int mg), (2, .int most)]) dX12_boxes_146 (by decide) rfl ?_
            refine x_iincN (lv2 := [(6, .int (nI (q + 1))), (5, .int (nI q)), (4, .int (bxS rec mg nt nb q)), (8, .int (bxS rec mg nt nb q)), (7, .int (nI (popN nb q))), (0, .ref 36), (1, .int mg), (2, .int most)]) dX12_boxes_148 4 rfl (by decide) rfl ?_
            refine x_goto (tgt := 54) dX12_boxes_151 (by decide) ?_
            refine x_perm (lv2 := [(6, .int (nI (q + 1))), (5, .int (nI (bxS rec mg nt nb q, q).2)), (4, .int (bxS rec mg nt nb q, q).1), (0, .ref 36), (1, .int mg), (2, .int most)]) [0, 1, 2, 5, 6, 7] rfl ?_
            have eS : (if boC (bxS rec mg nt nb) nb most q s then (bxS rec mg nt nb q, q) else s) = (bxS rec mg nt nb q, q) := if_pos ⟨Int32.not_lt.mpr c_103, c_121, Or.inr c_134⟩
            exact (ih (q + 1) (bxS rec mg nt nb q, q) (by omega) (by omega)).weaken (fun o ho => by rw [boF, eS]; exact ho)
          · refine x_goto (tgt := 148) dX12_boxes_137 (by decide) ?_
            refine x_iincN (lv2 := [(6, .int (nI (q + 1))), (8, .int (bxS rec mg nt nb q)), (7, .int (nI (popN nb q))), (5, .int (nI s.2)), (4, .int s.1), (0, .ref 36), (1, .int mg), (2, .int most)]) dX12_boxes_148 2 rfl (by decide) rfl ?_
            refine x_goto (tgt := 54) dX12_boxes_151 (by decide) ?_
            refine x_perm (lv2 := [(6, .int (nI (q + 1))), (5, .int (nI s.2)), (4, .int s.1), (0, .ref 36), (1, .int mg), (2, .int most)]) [0, 3, 4, 5, 6, 7] rfl ?_
            have eS : (if boC (bxS rec mg nt nb) nb most q s then (bxS rec mg nt nb q, q) else s) = s := if_neg (fun z => z.2.2.elim c_127 c_134)
            exact (ih (q + 1) s (by omega) (by omega)).weaken (fun o ho => by rw [boF, eS]; exact ho)
    · refine x_goto (tgt := 148) dX12_boxes_106 (by decide) ?_
      refine x_iincN (lv2 := [(6, .int (nI (q + 1))), (7, .int (nI (popN nb q))), (5, .int (nI s.2)), (4, .int s.1), (0, .ref 36), (1, .int mg), (2, .int most)]) dX12_boxes_148 1 rfl (by decide) rfl ?_
      refine x_goto (tgt := 54) dX12_boxes_151 (by decide) ?_
      refine x_perm (lv2 := [(6, .int (nI (q + 1))), (5, .int (nI s.2)), (4, .int s.1), (0, .ref 36), (1, .int mg), (2, .int most)]) [0, 2, 3, 4, 5, 6] rfl ?_
      have eS : (if boC (bxS rec mg nt nb) nb most q s then (bxS rec mg nt nb q, q) else s) = s := if_neg (fun z => z.1 (Int32.not_le.mp c_103))
      exact (ih (q + 1) s (by omega) (by omega)).weaken (fun o ho => by rw [boF, eS]; exact ho)

theorem spBs_of {rec : Nat → Int32} {c : Nat × Nat × Nat × Nat} {mg most bs : Int32} (nb : ¬ bBx c mg most) : spBs rec c mg most bs = (if (bxR rec mg most c.2.1 c.2.2.1).1 = -1 then bs else nI (bxR rec mg most c.2.1 c.2.2.1).2) := by
  unfold spBs
  by_cases q : (bxR rec mg most c.2.1 c.2.2.1).1 = -1
  · rw [if_pos (Or.inr q), if_pos q]
  · rw [if_neg (fun z => z.elim nb q), if_neg q]

set_option maxRecDepth 100000 in
set_option maxHeartbeats 4000000 in
theorem m_boxes {G : GT} {h : List PE} {s : ST} {t : Int32} {mg most : Int32} (hM : MoR h s) (hW : WS s)  : CT G mX12_boxes 4 102 [.ref 36, .int mg, .int most, .int t] h (fun o => o.1 = some (.int (spBx (sR s t) (sC s t) mg most)) ∧ MoR o.2 (s_setBs s (spBs (sR s t) (sC s t) mg most (s_bs s))) ∧ Sm [36] h o.2) := by
  obtain ⟨thr, siz, too, frm, knd, num, sgn, plc, wrd, tld, now, lst, pfo, thk, are, ipd, mt, bk, dy, nm, cv, sv, k1, k2, k3, k4, k5, k6, k7, f36, f37, f38, f39, f40, f41, f42, f43, f44, f45, f46, f47, f48, f49, r1, r2, r3⟩ := hM
  have W := hW.cur t
  have hm : MB (s_n s) dy bk (s_dy s) (s_rc s) := ⟨hW.1, r2⟩
  have hlb : lastB dy t (s_n s) = lastB (s_dy s) t (s_n s) := lastB_cong (fun k hk => (hm.2 k hk).1)
  have sm0 : Sm [36] h h := Sm.rf
  have w4 := W.2.2.2.1
  have w6 := W.2.2.2.2.2.1
  show X (NF G) G mX12_boxes 4 102 0 [(0, .ref 36), (1, .int mg), (2, .int most), (3, .int t)] [] h _
  refine x_aload_n dX12_boxes_0 0 rfl ?_
  refine x_iconst (v := 0) dX12_boxes_1 (by decide) ?_
  refine x_put (fs2 := (MO 0 ((nI (s_tn s))) ((nI (s_td s))) ((nI (s_n s))) siz too frm knd num sgn ((s_fl s)) plc wrd tld now lst pfo thk are ((s_br s)) ipd ((s_bs s)))) dX12_boxes_2 fX12_55 (Or.inl rfl) f36 (by decide) rfl rfl (Nat.le_of_ble_eq_true rfl) rfl (fun h101 a102 e103 l104 s105 => ?_)
  have f106 := (e103 38 (by decide)).trans f38
  have f107 := (e103 39 (by decide)).trans f39
  have sm108 := Sm.put sm0 e103 l104 s105 (by decide)
  refine x_iload_n dX12_boxes_5 1 rfl ?_
  refine x_iconst (v := 0) dX12_boxes_6 (by decide) ?_
  refine x_sipush (v := 2000) dX12_boxes_7 (by decide) ?_
  refine x_callS (rf' := 0) (rl' := 0) [.int mg, .int 0, .int 2000] [] dX12_boxes_10 vX12_65 Y_X12_isIn rfl rfl (Nat.le_of_ble_eq_true rfl) (Nat.le_of_ble_eq_true rfl) (by decide) (by decide) c_isIn (fun _ _ e109 => ?_)
  cases e109
  by_cases hI : mg < 0 ∨ 2000 < mg
  · rw [if_pos hI]
    refine x_if_eq (tgt := 42) dX12_boxes_13 (by decide) (fun c_13 => ?_) (fun c_13 => absurd (by decide) c_13)
    refine x_bipush (v := (-2)) dX12_boxes_42 (by decide) ?_
    exact x_iret dX12_boxes_44 rfl ⟨by rw [spBx, if_pos (Or.inl hI)], by rw [spBs, if_pos (Or.inl (Or.inl hI))]; exact (moR (s := s_setBs s (s_bs s)) a102 (sm108.at f37 (by decide)) f106 f107 (sm108.at f40 (by decide)) (sm108.at f41 (by decide)) (sm108.at f42 (by decide)) (sm108.at f43 (by decide)) (sm108.at f44 (by decide)) (sm108.at f45 (by decide)) (sm108.at f46 (by decide)) (sm108.at f47 (by decide)) (sm108.at f48 (by decide)) (sm108.at f49 (by decide)) r1 r2 r3), sm108⟩
  · rw [if_neg hI]
    refine x_if_eq (tgt := 42) dX12_boxes_13 (by decide) (fun c_13 => absurd c_13 (by decide)) (fun c_13 => ?_)
    refine x_iload_n dX12_boxes_16 2 rfl ?_
    refine x_iconst (v := 1) dX12_boxes_17 (by decide) ?_
    refine x_bipush (v := 8) dX12_boxes_18 (by decide) ?_
    refine x_callS (rf' := 0) (rl' := 0) [.int most, .int 1, .int 8] [] dX12_boxes_20 vX12_65 Y_X12_isIn rfl rfl (Nat.le_of_ble_eq_true rfl) (Nat.le_of_ble_eq_true rfl) (by decide) (by decide) c_isIn (fun _ _ e110 => ?_)
    cases e110
    by_cases hO : most < 1 ∨ 8 < most
    · rw [if_pos hO]
      refine x_if_eq (tgt := 42) dX12_boxes_23 (by decide) (fun c_23 => ?_) (fun c_23 => absurd (by decide) c_23)
      refine x_bipush (v := (-2)) dX12_boxes_42 (by decide) ?_
      exact x_iret dX12_boxes_44 rfl ⟨by rw [spBx, if_pos (Or.inr (Or.inl hO))], by rw [spBs, if_pos (Or.inl (Or.inr (Or.inl hO)))]; exact (moR (s := s_setBs s (s_bs s)) a102 (sm108.at f37 (by decide)) f106 f107 (sm108.at f40 (by decide)) (sm108.at f41 (by decide)) (sm108.at f42 (by decide)) (sm108.at f43 (by decide)) (sm108.at f44 (by decide)) (sm108.at f45 (by decide)) (sm108.at f46 (by decide)) (sm108.at f47 (by decide)) (sm108.at f48 (by decide)) (sm108.at f49 (by decide)) r1 r2 r3), sm108⟩
    · rw [if_neg hO]
      refine x_if_eq (tgt := 42) dX12_boxes_23 (by decide) (fun c_23 => absurd c_23 (by decide)) (fun c_23 => ?_)
      refine x_aload_n dX12_boxes_26 0 rfl ?_
      refine x_iload_n dX12_boxes_27 3 rfl ?_
      refine x_callV (rf' := 1) (rl' := 20) [.int t] [] dX12_boxes_28 vX12_214 Y_X12_isBooked a102 (by decide) rfl rfl (Nat.le_of_ble_eq_true rfl) (Nat.le_of_ble_eq_true rfl) (by decide) (by decide) (c_isBooked a102 f107 hm.1) (fun r h111 e1 => ?_)
      obtain ⟨e0, g112, sm113⟩ := e1
      cases e0
      rw [hlb] at g112 ⊢
      have f114 := sm113.at f106 (by decide)
      have f115 := sm113.at f107 (by decide)
      have sm116 := sm108.tr (sm113.wide (by decide))
      cases hb : lastB (s_dy s) t (s_n s) with
      | none =>
        rw [hb] at g112
        have g112 : h111[36]? = some (cO 12 (MO 0 ((nI (s_tn s))) ((nI (s_td s))) ((nI (s_n s))) siz too frm knd num sgn ((s_fl s)) plc wrd tld ((-1)) lst pfo thk are ((s_br s)) ipd ((s_bs s)))) := g112
        rw [if_pos rfl]
        have ct0 : (sC s t).2.1 = 0 := by unfold sC curC; rw [hb]
        refine x_if_eq (tgt := 42) dX12_boxes_31 (by decide) (fun c_31 => ?_) (fun c_31 => absurd (by decide) c_31)
        refine x_bipush (v := (-2)) dX12_boxes_42 (by decide) ?_
        exact x_iret dX12_boxes_44 rfl ⟨by rw [spBx, if_pos (Or.inr (Or.inr ct0))], by rw [spBs, if_pos (Or.inl (Or.inr (Or.inr ct0)))]; exact (moR (s := s_setBs s (s_bs s)) g112 (sm116.at f37 (by decide)) f114 f115 (sm116.at f40 (by decide)) (sm116.at f41 (by decide)) (sm116.at f42 (by decide)) (sm116.at f43 (by decide)) (sm116.at f44 (by decide)) (sm116.at f45 (by decide)) (sm116.at f46 (by decide)) (sm116.at f47 (by decide)) (sm116.at f48 (by decide)) (sm116.at f49 (by decide)) r1 r2 r3), sm116⟩
      | some b =>
        rw [hb] at g112
        have g112 : h111[36]? = some (cO 12 (MO 0 ((nI (s_tn s))) ((nI (s_td s))) ((nI (s_n s))) siz too frm knd num sgn ((s_fl s)) plc wrd tld ((nI (484 * b))) lst pfo thk are ((s_br s)) ipd ((s_bs s)))) := g112
        rw [if_neg (by simp)]
        have RH : 484 * b + 484 ≤ 10164 ∧ ∀ j, j < 484 → bk (484 * b + j) = sR s t j := hm.rh hb
        refine x_if_eq (tgt := 42) dX12_boxes_31 (by decide) (fun c_31 => absurd c_31 (by decide)) (fun c_31 => ?_)
        refine x_aload_n dX12_boxes_34 0 rfl ?_
        refine x_iconst (v := 1) dX12_boxes_35 (by decide) ?_
        refine x_callV (rf' := 0) (rl' := 0) [.int 1] [] dX12_boxes_36 vX12_217 Y_X12_of g112 (by decide) rfl rfl (Nat.le_of_ble_eq_true rfl) (Nat.le_of_ble_eq_true rfl) (by decide) (by decide) (c_ofR (k := 1) g112 f114 RH (by decide)) (fun _ _ e117 => ?_)
        cases e117
        rw [W.2.2.1]
        refine x_if_ne (tgt := 45) dX12_boxes_39 (by decide) (fun c_39 => ?_) (fun c_39 => ?_)
        · refine x_iconst (v := (-1)) dX12_boxes_45 (by decide) ?_
          refine x_istore (lv2 := [(4, .int (-1)), (0, .ref 36), (1, .int mg), (2, .int most), (3, .int t)]) dX12_boxes_46 (by decide) rfl ?_
          refine x_iconst (v := 0) dX12_boxes_48 (by decide) ?_
          refine x_istore (lv2 := [(5, .int 0), (4, .int (-1)), (0, .ref 36), (1, .int mg), (2, .int most), (3, .int t)]) dX12_boxes_49 (by decide) rfl ?_
          refine x_iconst (v := 1) dX12_boxes_51 (by decide) ?_
          refine x_istore (lv2 := [(6, .int 1), (5, .int 0), (4, .int (-1)), (0, .ref 36), (1, .int mg), (2, .int most), (3, .int t)]) dX12_boxes_52 (by decide) rfl ?_
          refine x_perm (lv2 := [(6, .int (nI 1)), (5, .int (nI ((-1 : Int32), 0).2)), (4, .int ((-1 : Int32), 0).1), (0, .ref 36), (1, .int mg), (2, .int most)]) [0, 1, 2, 3, 4, 5] rfl ?_
          refine (l_sets (rec := (sR s t)) (nt := (sC s t).2.1) (nb := (sC s t).2.2.1) g112 f114 RH w4 w6 W.2.2.1 W.2.2.2.2.1 (2 ^ (sC s t).2.2.1 - 1) 1 (-1, 0) rfl (two_le _ w6).1).weaken (fun o ho => ?_)
          obtain ⟨o1, o2, o3⟩ := ho
          have nb : ¬ bBx (sC s t) mg most := fun q => q.elim hI (fun q => q.elim hO (fun q => c_39 (by rw [q]; rfl)))
          have es : (spBs (sR s t) (sC s t) mg most (s_bs s)) = (if (bxR (sR s t) mg most (sC s t).2.1 (sC s t).2.2.1).1 = -1 then s_bs s else nI (bxR (sR s t) mg most (sC s t).2.1 (sC s t).2.2.1).2) := spBs_of nb
          have sm8 := sm116.tr o3
          refine ⟨by rw [o1, spBx, if_neg nb]; rfl, ?_, sm8⟩
          rw [es]
          exact (moR (s := s_setBs s _) o2 (sm8.at f37 (by decide)) (sm8.at f38 (by decide)) (sm8.at f39 (by decide)) (sm8.at f40 (by decide)) (sm8.at f41 (by decide)) (sm8.at f42 (by decide)) (sm8.at f43 (by decide)) (sm8.at f44 (by decide)) (sm8.at f45 (by decide)) (sm8.at f46 (by decide)) (sm8.at f47 (by decide)) (sm8.at f48 (by decide)) (sm8.at f49 (by decide)) r1 r2 r3)
        · refine x_bipush (v := (-2)) dX12_boxes_42 (by decide) ?_
          exact x_iret dX12_boxes_44 rfl ⟨by rw [spBx, if_pos (Or.inr (Or.inr (nI_inj0 (by omega) c_39)))], by rw [spBs, if_pos (Or.inl (Or.inr (Or.inr (nI_inj0 (by omega) c_39))))]; exact (moR (s := s_setBs s (s_bs s)) g112 (sm116.at f37 (by decide)) f114 f115 (sm116.at f40 (by decide)) (sm116.at f41 (by decide)) (sm116.at f42 (by decide)) (sm116.at f43 (by decide)) (sm116.at f44 (by decide)) (sm116.at f45 (by decide)) (sm116.at f46 (by decide)) (sm116.at f47 (by decide)) (sm116.at f48 (by decide)) (sm116.at f49 (by decide)) r1 r2 r3), sm116⟩

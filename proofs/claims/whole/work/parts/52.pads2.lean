set_option maxRecDepth 100000 in
set_option maxHeartbeats 4000000 in
theorem c_foamOf {G : GT} {h : List PE} {kn : Int32} {z1 : Nat → Int32} {q : Nat} (f25 : h[25]? = some (cO 7 [.ref 26, .ref 27, .ref 28, .ref 29, .ref 30, .ref 31, .int kn])) (f26 : h[26]? = some (cI 10 z1)) (hq : q < 10) : CT G mX7_foamOf 0 0 [.ref 25, .int (nI q)] h (fun o => o = (some (.int (z1 q)), h)) := by
  show X (NF G) G mX7_foamOf 0 0 0 [(0, .ref 25), (1, .int (nI q))] [] h _
  refine x_iload_n dX7_foamOf_0 1 rfl ?_
  refine x_if_ltN (a := q) (by omega) (tgt := 10) dX7_foamOf_1 (by decide) ?_
  refine x_iload_n dX7_foamOf_4 1 rfl ?_
  refine x_bipush (v := 10) dX7_foamOf_5 (by decide) ?_
  refine x_icmp_ltN (tgt := 14) (a := q) (b := 10) (by omega) (by omega) dX7_foamOf_7 (by decide) (fun c_7 => ?_) (fun c_7 => absurd (by omega) c_7)
  refine x_aload_n dX7_foamOf_14 0 rfl ?_
  refine x_get (v := .ref 26) dX7_foamOf_15 fX7_11 f25 (by decide) rfl ?_
  refine x_iload_n dX7_foamOf_18 1 rfl ?_
  refine x_ialdN (i := q) dX7_foamOf_19 f26 (by decide) (by omega) (by decide) ?_
  exact x_iret dX7_foamOf_20 rfl rfl

set_option maxRecDepth 100000 in
set_option maxHeartbeats 4000000 in
theorem c_thickOf {G : GT} {h : List PE} {kn : Int32} {z2 : Nat → Int32} {q : Nat} (f25 : h[25]? = some (cO 7 [.ref 26, .ref 27, .ref 28, .ref 29, .ref 30, .ref 31, .int kn])) (f27 : h[27]? = some (cI 10 z2)) (hq : q < 10) : CT G mX7_thickOf 0 0 [.ref 25, .int (nI q)] h (fun o => o = (some (.int (z2 q)), h)) := by
  show X (NF G) G mX7_thickOf 0 0 0 [(0, .ref 25), (1, .int (nI q))] [] h _
  refine x_iload_n dX7_thickOf_0 1 rfl ?_
  refine x_if_ltN (a := q) (by omega) (tgt := 10) dX7_thickOf_1 (by decide) ?_
  refine x_iload_n dX7_thickOf_4 1 rfl ?_
  refine x_bipush (v := 10) dX7_thickOf_5 (by decide) ?_
  refine x_icmp_ltN (tgt := 14) (a := q) (b := 10) (by omega) (by omega) dX7_thickOf_7 (by decide) (fun c_7 => ?_) (fun c_7 => absurd (by omega) c_7)
  refine x_aload_n dX7_thickOf_14 0 rfl ?_
  refine x_get (v := .ref 27) dX7_thickOf_15 fX7_15 f25 (by decide) rfl ?_
  refine x_iload_n dX7_thickOf_18 1 rfl ?_
  refine x_ialdN (i := q) dX7_thickOf_19 f27 (by decide) (by omega) (by decide) ?_
  exact x_iret dX7_thickOf_20 rfl rfl

set_option maxRecDepth 100000 in
set_option maxHeartbeats 4000000 in
theorem c_judgeT {G : GT} {h : List PE} {kn ar : Int32} {z2 z3 z4 : Nat → Int32} {q : Nat} (f25 : h[25]? = some (cO 7 [.ref 26, .ref 27, .ref 28, .ref 29, .ref 30, .ref 31, .int kn])) (f27 : h[27]? = some (cI 10 z2)) (f28 : h[28]? = some (cI 10 z3)) (f29 : h[29]? = some (cI 10 z4)) (hq : q < 10) : CT G mX7_judge 0 0 [.ref 25, .int (nI q), .int ar, .int 1] h (fun o => o.1 = none ∧ o.2[29]? = some (cI 10 ((upd z4 q (z3 q * ar * z2 q / 1000)))) ∧ Sm [29] h o.2) := by
  have sm0 : Sm [29] h h := Sm.rf
  show X (NF G) G mX7_judge 0 0 0 [(0, .ref 25), (1, .int (nI q)), (2, .int ar), (3, .int 1)] [] h _
  refine x_iload_n dX7_judge_0 1 rfl ?_
  refine x_if_ltN (a := q) (by omega) (tgt := 43) dX7_judge_1 (by decide) ?_
  refine x_iload_n dX7_judge_4 1 rfl ?_
  refine x_bipush (v := 10) dX7_judge_5 (by decide) ?_
  refine x_icmp_geN (tgt := 43) (a := q) (b := 10) (by omega) (by omega) dX7_judge_7 (by decide) (fun c_7 => absurd c_7 (by omega)) (fun c_7 => ?_)
  refine x_aload_n dX7_judge_10 0 rfl ?_
  refine x_get (v := .ref 29) dX7_judge_11 fX7_21 f25 (by decide) rfl ?_
  refine x_iload_n dX7_judge_14 1 rfl ?_
  refine x_iload_n dX7_judge_15 3 rfl ?_
  refine x_if_eq (tgt := 41) dX7_judge_16 (by decide) (fun c_16 => absurd c_16 (by decide)) (fun c_16 => ?_)
  refine x_aload_n dX7_judge_19 0 rfl ?_
  refine x_get (v := .ref 28) dX7_judge_20 fX7_18 f25 (by decide) rfl ?_
  refine x_iload_n dX7_judge_23 1 rfl ?_
  refine x_ialdN (i := q) dX7_judge_24 f28 (by decide) (by omega) (by decide) ?_
  refine x_iload_n dX7_judge_25 2 rfl ?_
  refine x_imul dX7_judge_26 ?_
  refine x_aload_n dX7_judge_27 0 rfl ?_
  refine x_get (v := .ref 27) dX7_judge_28 fX7_15 f25 (by decide) rfl ?_
  refine x_iload_n dX7_judge_31 1 rfl ?_
  refine x_ialdN (i := q) dX7_judge_32 f27 (by decide) (by omega) (by decide) ?_
  refine x_imul dX7_judge_33 ?_
  refine x_sipush (v := 1000) dX7_judge_34 (by decide) ?_
  refine x_idiv dX7_judge_37 (by decide) ?_
  refine x_goto (tgt := 42) dX7_judge_38 (by decide) ?_
  refine x_iastN (i := q) dX7_judge_42 f29 (by decide) (by omega) (by decide) (fun h1 a2 e3 l4 s5 => ?_)
  have f6 := (e3 25 (by decide)).trans f25
  have f7 := (e3 27 (by decide)).trans f27
  have f8 := (e3 28 (by decide)).trans f28
  have sm9 := Sm.put sm0 e3 l4 s5 (by decide)
  exact x_vret dX7_judge_43 rfl ⟨rfl, a2, sm9⟩

set_option maxRecDepth 100000 in
set_option maxHeartbeats 4000000 in
theorem c_judgeF {G : GT} {h : List PE} {kn ar : Int32} {z2 z3 z4 : Nat → Int32} {q : Nat} (f25 : h[25]? = some (cO 7 [.ref 26, .ref 27, .ref 28, .ref 29, .ref 30, .ref 31, .int kn])) (f27 : h[27]? = some (cI 10 z2)) (f28 : h[28]? = some (cI 10 z3)) (f29 : h[29]? = some (cI 10 z4)) (hq : q < 10) : CT G mX7_judge 0 0 [.ref 25, .int (nI q), .int ar, .int 0] h (fun o => o.1 = none ∧ o.2[29]? = some (cI 10 ((upd z4 q (-1)))) ∧ Sm [29] h o.2) := by
  have sm0 : Sm [29] h h := Sm.rf
  show X (NF G) G mX7_judge 0 0 0 [(0, .ref 25), (1, .int (nI q)), (2, .int ar), (3, .int 0)] [] h _
  refine x_iload_n dX7_judge_0 1 rfl ?_
  refine x_if_ltN (a := q) (by omega) (tgt := 43) dX7_judge_1 (by decide) ?_
  refine x_iload_n dX7_judge_4 1 rfl ?_
  refine x_bipush (v := 10) dX7_judge_5 (by decide) ?_
  refine x_icmp_geN (tgt := 43) (a := q) (b := 10) (by omega) (by omega) dX7_judge_7 (by decide) (fun c_7 => absurd c_7 (by omega)) (fun c_7 => ?_)
  refine x_aload_n dX7_judge_10 0 rfl ?_
  refine x_get (v := .ref 29) dX7_judge_11 fX7_21 f25 (by decide) rfl ?_
  refine x_iload_n dX7_judge_14 1 rfl ?_
  refine x_iload_n dX7_judge_15 3 rfl ?_
  refine x_if_eq (tgt := 41) dX7_judge_16 (by decide) (fun c_16 => ?_) (fun c_16 => absurd (by decide) c_16)
  refine x_iconst (v := (-1)) dX7_judge_41 (by decide) ?_
  refine x_iastN (i := q) dX7_judge_42 f29 (by decide) (by omega) (by decide) (fun h1 a2 e3 l4 s5 => ?_)
  have f6 := (e3 25 (by decide)).trans f25
  have f7 := (e3 27 (by decide)).trans f27
  have f8 := (e3 28 (by decide)).trans f28
  have sm9 := Sm.put sm0 e3 l4 s5 (by decide)
  exact x_vret dX7_judge_43 rfl ⟨rfl, a2, sm9⟩

theorem kd_no {nf m q : Nat} {tv : Nat → Nat} (h : ¬ (tv (2 * q) < nf ∧ 1 ≤ tv (2 * q + 1) ∧ tv (2 * q + 1) ≤ 60)) : ¬ kdOk nf tv (m + 1) q = true := by
  rw [kdOk, decide_eq_false h, Bool.false_and]
  exact Bool.false_ne_true
theorem kd_yes {nf m q : Nat} {tv : Nat → Nat} (h : tv (2 * q) < nf ∧ 1 ≤ tv (2 * q + 1) ∧ tv (2 * q + 1) ≤ 60) : kdOk nf tv (m + 1) q = kdOk nf tv m (q + 1) := by
  rw [kdOk, decide_eq_true h, Bool.true_and]

set_option maxRecDepth 100000 in
set_option maxHeartbeats 4000000 in
theorem l_readKinds {G : GT} {h0 : List PE} {tn nf ab b1 b2 b3 b4 : Nat} {n1 n2 n3 ln day : Int32} {tv fq : Nat → Nat} {zf : Nat → Option Nat} {rec : Nat → Int32} (hTp : TpR h0 tn tv) (htn : tn ≤ 640) (htv : ∀ j, j < tn → tv j < 256) (fab : h0[ab]? = some (cO 0 [.ref b1, .ref b2, .ref b3, .ref b4, .int (nI nf), .int n1, .int n2, .int n3, .int ln, .int day])) (fb1 : h0[b1]? = some (cR 4 8 zf)) (hab : ab = 16 ∨ 51 ≤ ab) (hb1 : b1 = 17 ∨ 51 ≤ b1) (hnf : nf ≤ 8) (hF : ∀ k, k < nf → zf k = some (fq k) ∧ ∃ p q np, 51 ≤ fq k ∧ h0[fq k]? = some (cO 6 [.ref p, .ref q, .int np, .int (rec (4 + 20 * k + 1)), .int (rec (4 + 20 * k + 2))])) (h1 : tn ≤ 20) (h2 : tn % 2 = 0) : ∀ (m q : Nat) (z1 z2 z3 : Nat → Int32) (h : List PE), tn / 2 - q = m → q ≤ tn / 2 → Sm [25, 26, 27, 28] h0 h → h[25]? = some (cO 7 [.ref 26, .ref 27, .ref 28, .ref 29, .ref 30, .ref 31, .int (nI (tn / 2))]) → h[26]? = some (cI 10 z1) → h[27]? = some (cI 10 z2) → h[28]? = some (cI 10 z3) → (∀ j, j < q → z1 j = nI (tv (2 * j)) ∧ z2 j = kTk tv j ∧ z3 j = rec (kFo tv j + 2)) → X (NF G) G mX7_readKinds 1 21 40 [(3, .int (nI q)), (0, .ref 25), (1, .ref 4), (2, .ref ab)] [] h (fun o => Sm [25, 26, 27, 28] h0 o.2 ∧ ∃ (kn : Int32) (y1 y2 y3 : Nat → Int32), o.2[25]? = some (cO 7 [.ref 26, .ref 27, .ref 28, .ref 29, .ref 30, .ref 31, .int kn]) ∧ o.2[26]? = some (cI 10 y1) ∧ o.2[27]? = some (cI 10 y2) ∧ o.2[28]? = some (cI 10 y3) ∧ o.1 = some (.int (if kdOk nf tv m q = true then 1 else 0)) ∧ (kdOk nf tv m q = true → kn = nI (tn / 2) ∧ (∀ j, j < tn / 2 → y1 j = nI (tv (2 * j)) ∧ y2 j = kTk tv j ∧ y3 j = rec (kFo tv j + 2)))) := by
  intro m
  induction m with
  | zero =>
    intro q z1 z2 z3 h hm hq sm f25 f26 f27 f28 hA
    refine x_iload_n dX7_readKinds_40 0 rfl ?_
    refine x_aload_n dX7_readKinds_41 1 rfl ?_
    refine x_get (v := .int (nI (tn / 2))) dX7_readKinds_42 fX7_30 f25 (by decide) rfl ?_
    refine x_icmp_geN (tgt := 135) (a := q) (b := (tn / 2)) (by omega) (by omega) dX7_readKinds_45 (by decide) (fun c_45 => ?_) (fun c_45 => absurd (by omega) c_45)
    refine x_iconst (v := 1) dX7_readKinds_135 (by decide) ?_
    exact x_zret dX7_readKinds_136 rfl rfl ⟨sm, _, z1, z2, z3, f25, f26, f27, f28, rfl, fun _ => ⟨rfl, fun j hj => hA j (by omega)⟩⟩
  | succ m ih =>
    intro q z1 z2 z3 h hm hq sm f25 f26 f27 f28 hA
    have gTp := hTp.kept (fun j hj => sm.2.2 j (by revert j; decide))
    obtain ⟨tb, f4, f5, e5⟩ := id gTp
    have gab := sm.at fab (by simp; omega)
    have gb1 := sm.at fb1 (by simp; omega)
    have v0 := htv (2 * q) (by omega)
    have v1 := htv (2 * q + 1) (by omega)
    refine x_iload_n dX7_readKinds_40 0 rfl ?_
    refine x_aload_n dX7_readKinds_41 1 rfl ?_
    refine x_get (v := .int (nI (tn / 2))) dX7_readKinds_42 fX7_30 f25 (by decide) rfl ?_
    refine x_icmp_geN (tgt := 135) (a := q) (b := (tn / 2)) (by omega) (by omega) dX7_readKinds_45 (by decide) (fun c_45 => absurd c_45 (by omega)) (fun c_45 => ?_)
    refine x_bipush (v := 10) dX7_readKinds_48 (by decide) ?_
    refine x_aload_n dX7_readKinds_50 2 rfl ?_
    refine x_iconst (v := 2) dX7_readKinds_51 (by decide) ?_
    refine x_iload_n dX7_readKinds_52 0 rfl ?_
    refine x_imulN (a := 2) (b := q) dX7_readKinds_53 ?_
    refine x_iconst (v := 1) dX7_readKinds_54 (by decide) ?_
    refine x_iaddN (a := (2 * q)) (b := 1) dX7_readKinds_55 ?_
    refine x_callV (rf' := 0) (rl' := 0) [.int (nI ((2 * q) + 1))] [.int 10] dX7_readKinds_56 vX7_39 Y_X8_byteAt f4 (by decide) rfl rfl (Nat.le_of_ble_eq_true rfl) (Nat.le_of_ble_eq_true rfl) (by decide) (by decide) (c_byteL (d := ((2 * q) + 1)) gTp htn (by omega)) (fun _ _ e101 => ?_)
    cases e101
    refine x_imulN (a := 10) (b := (tv (((2 * q) + 1)))) dX7_readKinds_59 ?_
    refine x_istore (lv2 := [(4, .int (nI (10 * (tv (((2 * q) + 1)))))), (3, .int (nI q)), (0, .ref 25), (1, .ref 4), (2, .ref ab)]) dX7_readKinds_60 (by decide) rfl ?_
    refine x_aload_n dX7_readKinds_62 4 rfl ?_
    refine x_aload_n dX7_readKinds_63 3 rfl ?_
    refine x_iconst (v := 2) dX7_readKinds_64 (by decide) ?_
    refine x_iload_n dX7_readKinds_65 1 rfl ?_
    refine x_imulN (a := 2) (b := q) dX7_readKinds_66 ?_
    refine x_callV (rf' := 0) (rl' := 0) [.int (nI (2 * q))] [.ref ab] dX7_readKinds_67 vX7_39 Y_X8_byteAt f4 (by decide) rfl rfl (Nat.le_of_ble_eq_true rfl) (Nat.le_of_ble_eq_true rfl) (by decide) (by decide) (c_byteL (d := (2 * q)) gTp htn (by omega)) (fun _ _ e102 => ?_)
    cases e102
    by_cases hf : tv (2 * q) < nf
    · obtain ⟨hz, p, qq, np, hq51, fo0⟩ := hF _ hf
      have fo := sm.at fo0 (by simp; omega)
      refine x_callV (rf' := 0) (rl' := 0) [.int (nI (tv ((2 * q))))] [] dX7_readKinds_70 vX7_43 Y_X0_foamAt gab (by omega) rfl rfl (Nat.le_of_ble_eq_true rfl) (Nat.le_of_ble_eq_true rfl) (by decide) (by decide) (c_foamAtS gab gb1 (by omega) (by omega) hnf hf hz) (fun _ _ q1 => ?_)
      cases q1
      refine x_astore (lv2 := [(5, .ref (fq (tv (2 * q)))), (4, .int (nI (10 * (tv (((2 * q) + 1)))))), (3, .int (nI q)), (0, .ref 25), (1, .ref 4), (2, .ref ab)]) dX7_readKinds_73 (by decide) rfl ?_
      refine x_aload dX7_readKinds_75 0 rfl ?_
      refine x_ifnull dX7_readKinds_77 ?_
      refine x_iload dX7_readKinds_80 1 rfl ?_
      refine x_bipush (v := 10) dX7_readKinds_82 (by decide) ?_
      refine x_icmp_ltN (tgt := 95) (a := (10 * (tv (((2 * q) + 1))))) (b := 10) (by omega) (by omega) dX7_readKinds_84 (by decide) (fun c_84 => ?_) (fun c_84 => ?_)
      · refine x_iconst (v := 0) dX7_readKinds_95 (by decide) ?_
        exact x_zret dX7_readKinds_96 rfl rfl ⟨sm, _, _, _, _, f25, f26, f27, f28, by rw [if_neg (show ¬ kdOk nf tv (m + 1) q = true from kd_no (by omega))], fun z => absurd z (kd_no (by omega))⟩
      · refine x_iload dX7_readKinds_87 1 rfl ?_
        refine x_sipush (v := 600) dX7_readKinds_89 (by decide) ?_
        refine x_icmp_leN (tgt := 97) (a := (10 * (tv (((2 * q) + 1))))) (b := 600) (by omega) (by omega) dX7_readKinds_92 (by decide) (fun c_92 => ?_) (fun c_92 => ?_)
        · refine x_aload_n dX7_readKinds_97 3 rfl ?_
          refine x_get (v := .ref 26) dX7_readKinds_98 fX7_11 f25 (by decide) rfl ?_
          refine x_iload_n dX7_readKinds_101 2 rfl ?_
          refine x_aload_n dX7_readKinds_102 4 rfl ?_
          refine x_iconst (v := 2) dX7_readKinds_103 (by decide) ?_
          refine x_iload_n dX7_readKinds_104 2 rfl ?_
          refine x_imulN (a := 2) (b := q) dX7_readKinds_105 ?_
          refine x_callV (rf' := 0) (rl' := 0) [.int (nI (2 * q))] [.int (nI q), .ref 26] dX7_readKinds_106 vX7_39 Y_X8_byteAt f4 (by decide) rfl rfl (Nat.le_of_ble_eq_true rfl) (Nat.le_of_ble_eq_true rfl) (by decide) (by decide) (c_byteL (d := (2 * q)) gTp htn (by omega)) (fun _ _ e103 => ?_)
          cases e103
          refine x_iastN (i := q) dX7_readKinds_109 f26 (by decide) (by omega) (by decide) (fun h104 a105 e106 l107 s108 => ?_)
          have f109 := (e106 25 (by decide)).trans f25
          have f110 := (e106 27 (by decide)).trans f27
          have f111 := (e106 28 (by decide)).trans f28
          have f112 := (e106 4 (by decide)).trans f4
          have f113 := (e106 ab (by omega)).trans gab
          have f114 := (e106 (fq (tv (2 * q))) (by omega)).trans fo
          have sm115 := Sm.put sm e106 l107 s108 (by decide)
          refine x_aload_n dX7_readKinds_110 3 rfl ?_
          refine x_get (v := .ref 27) dX7_readKinds_111 fX7_15 f109 (by decide) rfl ?_
          refine x_iload_n dX7_readKinds_114 2 rfl ?_
          refine x_iload dX7_readKinds_115 1 rfl ?_
          refine x_iastN (i := q) dX7_readKinds_117 f110 (by decide) (by omega) (by decide) (fun h116 a117 e118 l119 s120 => ?_)
          have f121 := (e118 25 (by decide)).trans f109
          have f122 := (e118 26 (by decide)).trans a105
          have f123 := (e118 28 (by decide)).trans f111
          have f124 := (e118 4 (by decide)).trans f112
          have f125 := (e118 ab (by omega)).trans f113
          have f126 := (e118 (fq (tv (2 * q))) (by omega)).trans f114
          have sm127 := Sm.put sm115 e118 l119 s120 (by decide)
          refine x_aload_n dX7_readKinds_118 3 rfl ?_
          refine x_get (v := .ref 28) dX7_readKinds_119 fX7_18 f121 (by decide) rfl ?_
          refine x_iload_n dX7_readKinds_122 2 rfl ?_
          refine x_aload dX7_readKinds_123 0 rfl ?_
          refine x_get (v := .int (rec (4 + 20 * tv (2 * q) + 2))) dX7_readKinds_125 fX7_49 f126 (by omega) rfl ?_
          refine x_iastN (i := q) dX7_readKinds_128 f123 (by decide) (by omega) (by decide) (fun h128 a129 e130 l131 s132 => ?_)
          have f133 := (e130 25 (by decide)).trans f121
          have f134 := (e130 26 (by decide)).trans f122
          have f135 := (e130 27 (by decide)).trans a117
          have f136 := (e130 4 (by decide)).trans f124
          have f137 := (e130 ab (by omega)).trans f125
          have f138 := (e130 (fq (tv (2 * q))) (by omega)).trans f126
          have sm139 := Sm.put sm127 e130 l131 s132 (by decide)
          refine x_iincN (lv2 := [(3, .int (nI (q + 1))), (5, .ref (fq (tv (2 * q)))), (4, .int (nI (10 * (tv (((2 * q) + 1)))))), (0, .ref 25), (1, .ref 4), (2, .ref ab)]) dX7_readKinds_129 2 rfl (by decide) rfl ?_
          refine x_goto (tgt := 40) dX7_readKinds_132 (by decide) ?_
          refine x_perm [0, 3, 4, 5] rfl ?_
          refine (ih (q + 1) _ _ _ h128 (by omega) (by omega) sm139 f133 f134 f135 a129 (fun j hj => ?_)).weaken (fun o ho => ?_)
          · by_cases ej : j = q
            · subst ej; rw [pk_us, pk_us, pk_us]; exact ⟨rfl, rfl, rfl⟩
            · rw [pk_un ej, pk_un ej, pk_un ej]; exact hA j (by omega)
          · rw [kd_yes (by omega)]
            exact ho
        · refine x_iconst (v := 0) dX7_readKinds_95 (by decide) ?_
          exact x_zret dX7_readKinds_96 rfl rfl ⟨sm, _, _, _, _, f25, f26, f27, f28, by rw [if_neg (show ¬ kdOk nf tv (m + 1) q = true from kd_no (by omega))], fun z => absurd z (kd_no (by omega))⟩
    · refine x_callV (rf' := 0) (rl' := 0) [.int (nI (tv ((2 * q))))] [] dX7_readKinds_70 vX7_43 Y_X0_foamAt gab (by omega) rfl rfl (Nat.le_of_ble_eq_true rfl) (Nat.le_of_ble_eq_true rfl) (by decide) (by decide) (c_foamAtN gab (by omega) (Or.inr ((nI_leI (by omega) (by omega)).mpr (by omega)))) (fun _ _ q1 => ?_)
      cases q1
      refine x_astoreN (lv2 := [(5, .null), (4, .int (nI (10 * (tv (((2 * q) + 1)))))), (3, .int (nI q)), (0, .ref 25), (1, .ref 4), (2, .ref ab)]) dX7_readKinds_73 (by decide) rfl ?_
      refine x_aloadN dX7_readKinds_75 0 rfl ?_
      refine x_ifnullN (tgt := 95) dX7_readKinds_77 (by decide) ?_
      refine x_iconst (v := 0) dX7_readKinds_95 (by decide) ?_
      exact x_zret dX7_readKinds_96 rfl rfl ⟨sm, _, _, _, _, f25, f26, f27, f28, by rw [if_neg (show ¬ kdOk nf tv (m + 1) q = true from kd_no (by omega))], fun z => absurd z (kd_no (by omega))⟩

set_option maxRecDepth 100000 in
set_option maxHeartbeats 4000000 in
theorem c_readKinds {G : GT} {h0 : List PE} {tn nf ab b1 b2 b3 b4 : Nat} {n1 n2 n3 ln day : Int32} {tv fq : Nat → Nat} {zf : Nat → Option Nat} {rec : Nat → Int32} (hTp : TpR h0 tn tv) (htn : tn ≤ 640) (htv : ∀ j, j < tn → tv j < 256) (fab : h0[ab]? = some (cO 0 [.ref b1, .ref b2, .ref b3, .ref b4, .int (nI nf), .int n1, .int n2, .int n3, .int ln, .int day])) (fb1 : h0[b1]? = some (cR 4 8 zf)) (hab : ab = 16 ∨ 51 ≤ ab) (hb1 : b1 = 17 ∨ 51 ≤ b1) (hnf : nf ≤ 8) (hF : ∀ k, k < nf → zf k = some (fq k) ∧ ∃ p q np, 51 ≤ fq k ∧ h0[fq k]? = some (cO 6 [.ref p, .ref q, .int np, .int (rec (4 + 20 * k + 1)), .int (rec (4 + 20 * k + 2))])) {kn0 : Int32} {z1 z2 z3 : Nat → Int32} (f25 : h0[25]? = some (cO 7 [.ref 26, .ref 27, .ref 28, .ref 29, .ref 30, .ref 31, .int kn0])) (f26 : h0[26]? = some (cI 10 z1)) (f27 : h0[27]? = some (cI 10 z2)) (f28 : h0[28]? = some (cI 10 z3)) : CT G mX7_readKinds 1 21 [.ref 25, .ref 4, .ref ab] h0 (fun o => Sm [25, 26, 27, 28] h0 o.2 ∧ ∃ (kn : Int32) (y1 y2 y3 : Nat → Int32), o.2[25]? = some (cO 7 [.ref 26, .ref 27, .ref 28, .ref 29, .ref 30, .ref 31, .int kn]) ∧ o.2[26]? = some (cI 10 y1) ∧ o.2[27]? = some (cI 10 y2) ∧ o.2[28]? = some (cI 10 y3) ∧ o.1 = some (.int (if kdsOk nf tn tv then 1 else 0)) ∧ (kdsOk nf tn tv → kn = nI (tn / 2) ∧ (∀ j, j < tn / 2 → y1 j = nI (tv (2 * j)) ∧ y2 j = kTk tv j ∧ y3 j = rec (kFo tv j + 2)))) := by
  obtain ⟨tb, f4, f5, e5⟩ := id hTp
  have sm0 : Sm [25, 26, 27, 28] h0 h0 := Sm.rf
  show X (NF G) G mX7_readKinds 1 21 0 [(0, .ref 25), (1, .ref 4), (2, .ref ab)] [] h0 _
  refine x_aload_n dX7_readKinds_0 1 rfl ?_
  refine x_get (v := .int (nI tn)) dX7_readKinds_1 fX7_34 f4 (by decide) rfl ?_
  refine x_iconst (v := 2) dX7_readKinds_4 (by decide) ?_
  refine x_icmp_ltN (tgt := 26) (a := tn) (b := 2) (by omega) (by omega) dX7_readKinds_5 (by decide) (fun c_5 => ?_) (fun c_5 => ?_)
  · refine x_iconst (v := 0) dX7_readKinds_26 (by decide) ?_
    exact x_zret dX7_readKinds_27 rfl rfl ⟨Sm.rf, _, z1, z2, z3, f25, f26, f27, f28, by rw [if_neg (fun z : kdsOk nf tn tv => by have z1 := z.1; have z2 := z.2.1; have z3 := z.2.2.1; omega)], fun z => by have z1 := z.1; have z2 := z.2.1; have z3 := z.2.2.1; omega⟩
  · refine x_aload_n dX7_readKinds_8 1 rfl ?_
    refine x_get (v := .int (nI tn)) dX7_readKinds_9 fX7_34 f4 (by decide) rfl ?_
    refine x_bipush (v := 20) dX7_readKinds_12 (by decide) ?_
    refine x_icmp_gtN (tgt := 26) (a := tn) (b := 20) (by omega) (by omega) dX7_readKinds_14 (by decide) (fun c_14 => ?_) (fun c_14 => ?_)
    · refine x_iconst (v := 0) dX7_readKinds_26 (by decide) ?_
      exact x_zret dX7_readKinds_27 rfl rfl ⟨Sm.rf, _, z1, z2, z3, f25, f26, f27, f28, by rw [if_neg (fun z : kdsOk nf tn tv => by have z1 := z.1; have z2 := z.2.1; have z3 := z.2.2.1; omega)], fun z => by have z1 := z.1; have z2 := z.2.1; have z3 := z.2.2.1; omega⟩
    · refine x_aload_n dX7_readKinds_17 1 rfl ?_
      refine x_get (v := .int (nI tn)) dX7_readKinds_18 fX7_34 f4 (by decide) rfl ?_
      refine x_iconst (v := 2) dX7_readKinds_21 (by decide) ?_
      refine x_iremN (a := tn) (b := 2) (by omega) (by omega) (by omega) dX7_readKinds_22 ?_
      refine x_if_eqN (tgt := 28) (a := (tn % 2)) (by omega) dX7_readKinds_23 (by decide) (fun c_23 => ?_) (fun c_23 => ?_)
      · refine x_aload_n dX7_readKinds_28 0 rfl ?_
        refine x_aload_n dX7_readKinds_29 1 rfl ?_
        refine x_get (v := .int (nI tn)) dX7_readKinds_30 fX7_34 f4 (by decide) rfl ?_
        refine x_iconst (v := 2) dX7_readKinds_33 (by decide) ?_
        refine x_idivN (a := tn) (b := 2) (by omega) (by omega) (by omega) dX7_readKinds_34 ?_
        refine x_put (fs2 := [.ref 26, .ref 27, .ref 28, .ref 29, .ref 30, .ref 31, .int (nI (tn / 2))]) dX7_readKinds_35 fX7_30 (Or.inl rfl) f25 (by decide) rfl rfl (Nat.le_of_ble_eq_true rfl) rfl (fun h1 a2 e3 l4 s5 => ?_)
        have f6 := (e3 26 (by decide)).trans f26
        have f7 := (e3 27 (by decide)).trans f27
        have f8 := (e3 28 (by decide)).trans f28
        have f9 := (e3 4 (by decide)).trans f4
        have sm10 := Sm.put sm0 e3 l4 s5 (by decide)
        refine x_iconst (v := 0) dX7_readKinds_38 (by decide) ?_
        refine x_istore_n (lv2 := [(3, .int 0), (0, .ref 25), (1, .ref 4), (2, .ref ab)]) dX7_readKinds_39 (by decide) rfl ?_
        refine x_perm [0, 1, 2, 3] rfl ?_
        refine (l_readKinds hTp htn htv fab fb1 hab hb1 hnf hF (by omega) (by omega) (tn / 2) 0 z1 z2 z3 h1 rfl (by omega) sm10 a2 f6 f7 f8 (fun j hj => absurd hj (Nat.not_lt_zero j))).weaken (fun o ho => ?_)
        have ek : kdOk nf tv (tn / 2) 0 = true ↔ kdsOk nf tn tv := ⟨fun q => ⟨by omega, by omega, by omega, q⟩, fun q => q.2.2.2⟩
        obtain ⟨o1, kn, y1, y2, y3, o2, o3, o4, o5, o6, o7⟩ := ho
        exact ⟨o1, kn, y1, y2, y3, o2, o3, o4, o5, by rw [o6, ite_iff ek], fun z => o7 (ek.mpr z)⟩
      · refine x_iconst (v := 0) dX7_readKinds_26 (by decide) ?_
        exact x_zret dX7_readKinds_27 rfl rfl ⟨Sm.rf, _, z1, z2, z3, f25, f26, f27, f28, by rw [if_neg (fun z : kdsOk nf tn tv => by have z1 := z.1; have z2 := z.2.1; have z3 := z.2.2.1; omega)], fun z => by have z1 := z.1; have z2 := z.2.1; have z3 := z.2.2.1; omega⟩

/-- the Cushion bears new foam -/
def LaidF (h : List PE) (rec : Nat → Int32) (f : Nat) (tk ar : Int32) : Prop := ∃ (fr pu : Nat → Int32) (sv : Nat → Int64), h[21]? = some (cO 4 [.ref 22, .ref 23, .ref 24, .int (lcI (cnR rec f)), .long tk.toInt64, .long ar.toInt64, .int (rec (f + 1)), .int 100]) ∧ h[22]? = some (cI 96 fr) ∧ h[23]? = some (cI 96 pu) ∧ h[24]? = some (cJ 96 sv) ∧ (∀ x, x < cnR rec f → pu x = cuR rec f 100 x) ∧ ∀ x, x < cnR rec f → sv x = stR rec f 100 x
theorem LaidF.cu {h : List PE} {rec : Nat → Int32} {f : Nat} {tk ar : Int32} (x : LaidF h rec f tk ar) (WF : WFc rec f) : CuR h := by
  obtain ⟨fr, pu, sv, q1, q2, q3, q4, -⟩ := x
  exact ⟨_, _, _, _, _, fr, pu, sv, q1, q2, q3, q4, cnR_le WF⟩
theorem c_layFoamL {G : GT} {h : List PE} {rec : Nat → Int32} {f a : Nat} {tk ar : Int32} (hcu : CuR h) (WF : WFc rec f) (hF : FoamAt h rec f (npR rec f) a) : CT G mX4_layFoam 2 40 [.ref 21, .ref a, .int tk, .int ar] h (fun o => o.1 = none ∧ LaidF o.2 rec f tk ar ∧ Sm [21, 22, 23, 24] h o.2) := by
  obtain ⟨thick, area, keeps, kept, cc, fr, pu, sv, f21, f22, f23, f24, hc⟩ := hcu
  obtain ⟨hfa, p, q, g1, g2, b1, b2, b3, b4, b5, b6⟩ := hF
  refine (c_layFoam f21 f22 f23 f24 b3 b4 b5 hfa b1 b2 WF b6).weaken (fun o ho => ?_)
  obtain ⟨o1, fr2, pu2, sv2, o2, o3, o4, o5, o6, o7, o8, o9⟩ := ho
  have e1 := fr_canon WF o7
  have e2 : ∀ x, x < cnR rec f → pu2 x = cuR rec f 100 x := fun x hx => by rw [o8 x hx, e1 x hx]; rfl
  exact ⟨o1, ⟨fr2, pu2, sv2, o2, o3, o4, o5, e2, fun x hx => by rw [o9 x hx]; exact stoF_cong (fun i hi => e2 i (by omega))⟩, o6⟩
theorem c_holdsF {G : GT} {h : List PE} {rec : Nat → Int32} {c : Nat × Nat × Nat × Nat} {k an f ta : Nat} {tk hh : Int32} {fq : Nat → Nat} (L : LaidF h rec f tk (nI an)) (WF : WFc rec f) (hT : ThingAt h rec (164 + 24 * k) fq ta) (W : WFk rec c) (hk : k < c.2.1) (ha : an ≤ 2000) : CT G mX4_holds 3 67 [.ref 21, .ref ta, .int hh] h (fun o => o = (some (.int (if hoF (stR rec f 100) (cuR rec f 100) (cnR rec f) tk.toInt64 (nI an).toInt64 (rec (164 + 24 * k)) hh (rec (164 + 24 * k + 4)) then 1 else 0)), h)) := by
  have hc9 := cnR_le WF
  obtain ⟨fr, pu, sv, q1, q2, q3, q4, e2, e3⟩ := L
  obtain ⟨hta, s1, s2, s3, s4, z1, z2, z3, z4, -, -, -, -, fta, -⟩ := hT
  obtain ⟨⟨wn, hw, hw1, hw2⟩, -⟩ := W.2.2.2.2.2.2.2.2.2.1 k hk
  have h1 := nI_one hw1 (show wn < 2 ^ 31 by omega)
  rw [← hw] at h1
  refine (c_holds2 q1 q3 q4 fta (by omega) hc9 h1.1 h1.2).weaken (fun o ho => ?_)
  rw [ho, blO_cong (by omega) e3 e2, hw, nI_l (show an < 2 ^ 31 by omega)]
  have h2 := ho_blO (sto := stR rec f 100) (cu := cuR rec f 100) (c := cnR rec f) (thick := tk.toInt64) (a := an) (wn := wn) (h := hh) (mk := rec (164 + 24 * k + 4)) (by omega) (fun x hx => cuR_nat (kn := 100) WF hx (by omega)) ha hw1 (by omega)
  cases e : hoF (stR rec f 100) (cuR rec f 100) (cnR rec f) tk.toInt64 (lN an) (nI wn) hh (rec (164 + 24 * k + 4)) with
  | false => rw [if_pos (h2.mpr e)]; rfl
  | true => rw [if_neg (fun q => by rw [h2.mp q] at e; cases e)]; rfl

set_option maxRecDepth 100000 in
set_option maxHeartbeats 4000000 in
theorem c_layKind {G : GT} {h : List PE} {n td nf ab b1 b2 b3 b4 q : Nat} {fk br n1 n2 n3 ln day ar kn : Int32} {tv fq : Nat → Nat} {zf : Nat → Option Nat} {rec z1 z2 : Nat → Int32} (hfa : FaR h n td fk br) (hcu : CuR h) (fab : h[ab]? = some (cO 0 [.ref b1, .ref b2, .ref b3, .ref b4, .int (nI nf), .int n1, .int n2, .int n3, .int ln, .int day])) (fb1 : h[b1]? = some (cR 4 8 zf)) (hab : ab = 16 ∨ 51 ≤ ab) (hb1 : b1 = 17 ∨ 51 ≤ b1) (hnf : nf ≤ 8) (hz : zf (tv (2 * q)) = some (fq (tv (2 * q)))) (hlt : tv (2 * q) < nf) (WF : WFc rec (kFo tv q)) (hFo : FoamAt h rec (kFo tv q) (npR rec (kFo tv q)) (fq (tv (2 * q)))) (f25 : h[25]? = some (cO 7 [.ref 26, .ref 27, .ref 28, .ref 29, .ref 30, .ref 31, .int kn])) (f26 : h[26]? = some (cI 10 z1)) (f27 : h[27]? = some (cI 10 z2)) (hq : q < 10) (e1 : z1 q = nI (tv (2 * q))) (e2 : z2 q = kTk tv q)  : CT G mX11_layKind 3 64 [.ref 3, .ref ab, .int (nI q), .int ar] h (fun o => o.1 = none ∧ LaidF o.2 rec (kFo tv q) (kTk tv q) ar ∧ Sm [21, 22, 23, 24] h o.2) := by
  have f3 : h[3]? = some (cO 11 [.ref 4, .ref 6, .ref 15, .ref 16, .ref 21, .ref 25, .ref 32, .ref 35, .int (nI n), .int (nI td), .int fk, .int br]) := hfa
  obtain ⟨thick, area, keeps, kept, cc, fr, pu, sv, g21, -⟩ := id hcu
  show X (NF G) G mX11_layKind 3 64 0 [(0, .ref 3), (1, .ref ab), (2, .int (nI q)), (3, .int ar)] [] h _
  refine x_aload_n dX11_layKind_0 0 rfl ?_
  refine x_get (v := .ref 21) dX11_layKind_1 fX11_37 f3 (by decide) rfl ?_
  refine x_aload_n dX11_layKind_4 1 rfl ?_
  refine x_aload_n dX11_layKind_5 0 rfl ?_
  refine x_get (v := .ref 25) dX11_layKind_6 fX11_44 f3 (by decide) rfl ?_
  refine x_iload_n dX11_layKind_9 2 rfl ?_
  refine x_callV (rf' := 0) (rl' := 0) [.int (nI q)] [.ref ab, .ref 21] dX11_layKind_10 vX11_293 Y_X7_foamOf f25 (by decide) rfl rfl (Nat.le_of_ble_eq_true rfl) (Nat.le_of_ble_eq_true rfl) (by decide) (by decide) (c_foamOf f25 f26 hq) (fun _ _ x1 => ?_)
  cases x1
  rw [e1]
  refine x_callV (rf' := 0) (rl' := 0) [.int (nI (tv (2 * q)))] [.ref 21] dX11_layKind_13 vX11_111 Y_X0_foamAt fab (by omega) rfl rfl (Nat.le_of_ble_eq_true rfl) (Nat.le_of_ble_eq_true rfl) (by decide) (by decide) (c_foamAtS fab fb1 (by omega) (by omega) hnf hlt hz) (fun _ _ x1 => ?_)
  cases x1
  refine x_aload_n dX11_layKind_16 0 rfl ?_
  refine x_get (v := .ref 25) dX11_layKind_17 fX11_44 f3 (by decide) rfl ?_
  refine x_iload_n dX11_layKind_20 2 rfl ?_
  refine x_callV (rf' := 0) (rl' := 0) [.int (nI q)] [.ref (fq (tv (2 * q))), .ref 21] dX11_layKind_21 vX11_296 Y_X7_thickOf f25 (by decide) rfl rfl (Nat.le_of_ble_eq_true rfl) (Nat.le_of_ble_eq_true rfl) (by decide) (by decide) (c_thickOf f25 f27 hq) (fun _ _ x1 => ?_)
  cases x1
  rw [e2]
  refine x_iload_n dX11_layKind_24 3 rfl ?_
  refine x_callV (rf' := 2) (rl' := 40) [.ref (fq (tv (2 * q))), .int (kTk tv q), .int ar] [] dX11_layKind_25 vX11_299 Y_X4_layFoam g21 (by decide) rfl rfl (Nat.le_of_ble_eq_true rfl) (Nat.le_of_ble_eq_true rfl) (by decide) (by decide) (c_layFoamL hcu WF hFo) (fun r h1 x1 => ?_)
  obtain ⟨x0, x2, x3⟩ := x1
  cases x0
  exact x_vret dX11_layKind_28 rfl ⟨rfl, x2, x3⟩

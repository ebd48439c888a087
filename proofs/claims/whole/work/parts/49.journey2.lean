set_option maxRecDepth 100000 in
set_option maxHeartbeats 4000000 in
theorem c_heightAt {G : GT} {h : List PE} {thr tpd tdy bks siz too frm knd num sgn flt plc tld now lst pfo thk are brk ipd bst : Int32} {wrd : Int64} {mt : Nat → Int32} {tn fm i : Nat} {tv : Nat → Nat} (f36 : h[36]? = some (cO 12 (MO thr tpd tdy bks siz too frm knd num sgn flt plc wrd tld now lst pfo thk are brk ipd bst))) (f37 : h[37]? = some (cI 640 mt)) (r1 : ∀ j, j < tn → mt j = nI (tv j)) (htn : tn ≤ 640) (hfm : fm + 10 ≤ tn) (hi : i < 3) : CT G mX12_heightAt 0 0 [.ref 36, .int (nI fm), .int (nI i)] h (fun o => o = (some (.int (nI (jgH tv fm i))), h)) := by
  show X (NF G) G mX12_heightAt 0 0 0 [(0, .ref 36), (1, .int (nI fm)), (2, .int (nI i))] [] h _
  refine x_sipush (v := 256) dX12_heightAt_0 (by decide) ?_
  refine x_aload_n dX12_heightAt_3 0 rfl ?_
  refine x_get (v := .ref 37) dX12_heightAt_4 fX12_7 f36 (by decide) rfl ?_
  refine x_iload_n dX12_heightAt_7 1 rfl ?_
  refine x_iconst (v := 1) dX12_heightAt_8 (by decide) ?_
  refine x_iaddN (a := fm) (b := 1) dX12_heightAt_9 ?_
  refine x_iconst (v := 2) dX12_heightAt_10 (by decide) ?_
  refine x_iload_n dX12_heightAt_11 2 rfl ?_
  refine x_imulN (a := 2) (b := i) dX12_heightAt_12 ?_
  refine x_iaddN (a := (fm + 1)) (b := (2 * i)) dX12_heightAt_13 ?_
  refine x_ialdN (i := ((fm + 1) + (2 * i))) dX12_heightAt_14 f37 (by decide) (by omega) (by decide) ?_
  rw [r1 (fm + 1 + 2 * i) (by omega)]
  refine x_imulN (a := 256) (b := (tv (fm + 1 + 2 * i))) dX12_heightAt_15 ?_
  refine x_aload_n dX12_heightAt_16 0 rfl ?_
  refine x_get (v := .ref 37) dX12_heightAt_17 fX12_7 f36 (by decide) rfl ?_
  refine x_iload_n dX12_heightAt_20 1 rfl ?_
  refine x_iconst (v := 2) dX12_heightAt_21 (by decide) ?_
  refine x_iaddN (a := fm) (b := 2) dX12_heightAt_22 ?_
  refine x_iconst (v := 2) dX12_heightAt_23 (by decide) ?_
  refine x_iload_n dX12_heightAt_24 2 rfl ?_
  refine x_imulN (a := 2) (b := i) dX12_heightAt_25 ?_
  refine x_iaddN (a := (fm + 2)) (b := (2 * i)) dX12_heightAt_26 ?_
  refine x_ialdN (i := ((fm + 2) + (2 * i))) dX12_heightAt_27 f37 (by decide) (by omega) (by decide) ?_
  rw [r1 (fm + 2 + 2 * i) (by omega)]
  refine x_iaddN (a := (256 * (tv (fm + 1 + 2 * i)))) (b := (tv (fm + 2 + 2 * i))) dX12_heightAt_28 ?_
  exact x_iret dX12_heightAt_29 rfl (by unfold jgH; rw [Nat.mul_comm 256])

set_option maxRecDepth 100000 in
set_option maxHeartbeats 4000000 in
theorem lm_jgIn {G : GT} {h : List PE} {thr tpd tdy bks siz too frm knd num sgn flt plc tld now lst pfo thk are brk ipd bst : Int32} {wrd : Int64} {mt : Nat → Int32} {tn : Nat} {tv : Nat → Nat} {th : Int32} {Q : OT → Prop} (f36 : h[36]? = some (cO 12 (MO thr tpd tdy bks siz too frm knd num sgn flt plc wrd tld now lst pfo thk are brk ipd bst))) (f37 : h[37]? = some (cI 640 mt)) (r1 : ∀ j, j < tn → mt j = nI (tv j)) (htn : tn ≤ 640) (htv : ∀ j, j < tn → tv j < 256) {fm : Nat} (hfm : fm + 10 ≤ tn) : ∀ (m i : Nat), 3 - i = m → i ≤ 3 → (hgOk tv fm m i = true → X (NF G) G mX12_journey 3 65 151 [(4, .int 1), (5, .int (nI fm)), (3, .int (nI tn)), (0, .ref 36), (1, .int th)] [] h Q) → (hgOk tv fm m i = false → X (NF G) G mX12_journey 3 65 151 [(4, .int 0), (5, .int (nI fm)), (3, .int (nI tn)), (0, .ref 36), (1, .int th)] [] h Q) → X (NF G) G mX12_journey 3 65 113 [(6, .int (nI i)), (4, .int 1), (5, .int (nI fm)), (3, .int (nI tn)), (0, .ref 36), (1, .int th)] [] h Q := by
  intro m
  induction m with
  | zero =>
    intro i hm hi KT KF
    refine x_iload dX12_journey_113 0 rfl ?_
    refine x_iconst (v := 3) dX12_journey_115 (by decide) ?_
    refine x_icmp_geN (tgt := 151) (a := i) (b := 3) (by omega) (by omega) dX12_journey_116 (by decide) (fun c_116 => ?_) (fun c_116 => absurd (by omega) c_116)
    refine x_perm [1, 2, 3, 4, 5] rfl ?_
    exact KT rfl
  | succ m ih =>
    intro i hm hi KT KF
    have jh := jgH_le (i := i) htv hfm (by omega)
    refine x_iload dX12_journey_113 0 rfl ?_
    refine x_iconst (v := 3) dX12_journey_115 (by decide) ?_
    refine x_icmp_geN (tgt := 151) (a := i) (b := 3) (by omega) (by omega) dX12_journey_116 (by decide) (fun c_116 => absurd c_116 (by omega)) (fun c_116 => ?_)
    refine x_iload dX12_journey_119 1 rfl ?_
    refine x_if_eq (tgt := 151) dX12_journey_121 (by decide) (fun c_121 => absurd c_121 (by decide)) (fun c_121 => ?_)
    refine x_aload_n dX12_journey_124 4 rfl ?_
    refine x_iload dX12_journey_125 2 rfl ?_
    refine x_iload dX12_journey_127 0 rfl ?_
    refine x_callV (rf' := 0) (rl' := 0) [.int (nI fm), .int (nI i)] [] dX12_journey_129 vX12_299 Y_X12_heightAt f36 (by decide) rfl rfl (Nat.le_of_ble_eq_true rfl) (Nat.le_of_ble_eq_true rfl) (by decide) (by decide) (c_heightAt f36 f37 r1 htn hfm (by omega)) (fun _ _ q1 => ?_)
    cases q1
    refine x_sipush (v := 30000) dX12_journey_132 (by decide) ?_
    refine x_icmp_gtN (tgt := 142) (a := (jgH tv fm i)) (b := 30000) (by omega) (by omega) dX12_journey_135 (by decide) (fun c_135 => ?_) (fun c_135 => ?_)
    · refine x_iconst (v := 0) dX12_journey_142 (by decide) ?_
      refine x_istore (lv2 := [(4, .int 0), (6, .int (nI i)), (5, .int (nI fm)), (3, .int (nI tn)), (0, .ref 36), (1, .int th)]) dX12_journey_143 (by decide) rfl ?_
      refine x_iincN (lv2 := [(6, .int (nI (i + 1))), (4, .int 0), (5, .int (nI fm)), (3, .int (nI tn)), (0, .ref 36), (1, .int th)]) dX12_journey_145 1 rfl (by decide) rfl ?_
      refine x_goto (tgt := 113) dX12_journey_148 (by decide) ?_
      refine x_iload dX12_journey_113 0 rfl ?_
      refine x_iconst (v := 3) dX12_journey_115 (by decide) ?_
      refine x_icmp_geN (tgt := 151) (a := (i + 1)) (b := 3) (by omega) (by omega) dX12_journey_116 (by decide) (fun c_116' => ?_) (fun c_116' => ?_)
      · refine x_perm [1, 2, 3, 4, 5] rfl ?_
        exact KF (by rw [hgOk, decide_eq_false (by omega), Bool.false_and])
      · refine x_iload dX12_journey_119 1 rfl ?_
        refine x_if_eq (tgt := 151) dX12_journey_121 (by decide) (fun c_121' => ?_) (fun c_121' => absurd (by decide) c_121')
        refine x_perm [1, 2, 3, 4, 5] rfl ?_
        exact KF (by rw [hgOk, decide_eq_false (by omega), Bool.false_and])
    · refine x_iconst (v := 1) dX12_journey_138 (by decide) ?_
      refine x_goto (tgt := 143) dX12_journey_139 (by decide) ?_
      refine x_istore (lv2 := [(4, .int 1), (6, .int (nI i)), (5, .int (nI fm)), (3, .int (nI tn)), (0, .ref 36), (1, .int th)]) dX12_journey_143 (by decide) rfl ?_
      refine x_iincN (lv2 := [(6, .int (nI (i + 1))), (4, .int 1), (5, .int (nI fm)), (3, .int (nI tn)), (0, .ref 36), (1, .int th)]) dX12_journey_145 1 rfl (by decide) rfl ?_
      refine x_goto (tgt := 113) dX12_journey_148 (by decide) ?_
      refine x_perm [0, 1, 2, 3, 4, 5] rfl ?_
      exact ih (i + 1) (by omega) (by omega) (fun q => KT (by rw [hgOk, decide_eq_true (by omega), Bool.true_and]; exact q)) (fun q => KF (by rw [hgOk, decide_eq_true (by omega), Bool.true_and]; exact q))

set_option maxRecDepth 100000 in
set_option maxHeartbeats 4000000 in
theorem lm_jg0 {G : GT} {h : List PE} {tn fm : Nat} {th : Int32} {Q : OT → Prop} (htn : tn ≤ 640) (hfm : fm ≤ 1000) (K : X (NF G) G mX12_journey 3 65 157 [(4, .int 0), (3, .int (nI tn)), (0, .ref 36), (1, .int th)] [] h Q) : X (NF G) G mX12_journey 3 65 45 [(4, .int 0), (5, .int (nI fm)), (3, .int (nI tn)), (0, .ref 36), (1, .int th)] [] h Q := by
  refine x_iload dX12_journey_45 1 rfl ?_
  refine x_iload_n dX12_journey_47 2 rfl ?_
  refine x_icmp_geN (tgt := 157) (a := fm) (b := tn) (by omega) (by omega) dX12_journey_48 (by decide) (fun c_48 => ?_) (fun c_48 => ?_)
  · refine x_perm [0, 2, 3, 4] rfl ?_
    exact K
  · refine x_iload dX12_journey_51 0 rfl ?_
    refine x_if_eq (tgt := 157) dX12_journey_53 (by decide) (fun c_53 => ?_) (fun c_53 => absurd (by decide) c_53)
    refine x_perm [0, 2, 3, 4] rfl ?_
    exact K

set_option maxRecDepth 100000 in
set_option maxHeartbeats 4000000 in
theorem lm_jgOut {G : GT} {h : List PE} {thr tpd tdy bks siz too frm knd num sgn flt plc tld now lst pfo thk are brk ipd bst : Int32} {wrd : Int64} {mt : Nat → Int32} {tn : Nat} {tv : Nat → Nat} {th : Int32} {Q : OT → Prop} (f36 : h[36]? = some (cO 12 (MO thr tpd tdy bks siz too frm knd num sgn flt plc wrd tld now lst pfo thk are brk ipd bst))) (f37 : h[37]? = some (cI 640 mt)) (r1 : ∀ j, j < tn → mt j = nI (tv j)) (htn : tn ≤ 640) (htv : ∀ j, j < tn → tv j < 256) (h10 : tn % 10 = 0) : ∀ (m fm : Nat), tn - fm = 10 * m → fm ≤ tn → (legsOk tv m fm = true → X (NF G) G mX12_journey 3 65 157 [(4, .int 1), (3, .int (nI tn)), (0, .ref 36), (1, .int th)] [] h Q) → (legsOk tv m fm = false → X (NF G) G mX12_journey 3 65 157 [(4, .int 0), (3, .int (nI tn)), (0, .ref 36), (1, .int th)] [] h Q) → X (NF G) G mX12_journey 3 65 45 [(4, .int 1), (5, .int (nI fm)), (3, .int (nI tn)), (0, .ref 36), (1, .int th)] [] h Q := by
  intro m
  induction m with
  | zero =>
    intro fm hm hf KT KF
    refine x_iload dX12_journey_45 1 rfl ?_
    refine x_iload_n dX12_journey_47 2 rfl ?_
    refine x_icmp_geN (tgt := 157) (a := fm) (b := tn) (by omega) (by omega) dX12_journey_48 (by decide) (fun c_48 => ?_) (fun c_48 => absurd (by omega) c_48)
    refine x_perm [0, 2, 3, 4] rfl ?_
    exact KT rfl
  | succ m ih =>
    intro fm hm hf KT KF
    have js := jgS_le htv (show fm + 10 ≤ tn by omega)
    have jb := htv fm (by omega)
    have eS : tv (fm + 7) + tv (fm + 8) + tv (fm + 9) = jgS tv fm := rfl
    have b7 := htv (fm + 7) (by omega)
    have b8 := htv (fm + 8) (by omega)
    have b9 := htv (fm + 9) (by omega)
    refine x_iload dX12_journey_45 1 rfl ?_
    refine x_iload_n dX12_journey_47 2 rfl ?_
    refine x_icmp_geN (tgt := 157) (a := fm) (b := tn) (by omega) (by omega) dX12_journey_48 (by decide) (fun c_48 => absurd c_48 (by omega)) (fun c_48 => ?_)
    refine x_iload dX12_journey_51 0 rfl ?_
    refine x_if_eq (tgt := 157) dX12_journey_53 (by decide) (fun c_53 => absurd c_53 (by decide)) (fun c_53 => ?_)
    refine x_aload_n dX12_journey_56 3 rfl ?_
    refine x_get (v := .ref 37) dX12_journey_57 fX12_7 f36 (by decide) rfl ?_
    refine x_iload dX12_journey_60 1 rfl ?_
    refine x_ialdN (i := fm) dX12_journey_62 f37 (by decide) (by omega) (by decide) ?_
    rw [r1 (fm) (by omega)]
    refine x_bipush (v := 6) dX12_journey_63 (by decide) ?_
    refine x_icmp_geN (tgt := 107) (a := (tv (fm))) (b := 6) (by omega) (by omega) dX12_journey_65 (by decide) (fun c_65 => ?_) (fun c_65 => ?_)
    · refine x_iconst (v := 0) dX12_journey_107 (by decide) ?_
      refine x_istore (lv2 := [(4, .int 0), (5, .int (nI fm)), (3, .int (nI tn)), (0, .ref 36), (1, .int th)]) dX12_journey_108 (by decide) rfl ?_
      refine x_iconst (v := 0) dX12_journey_110 (by decide) ?_
      refine x_istore (lv2 := [(6, .int 0), (4, .int 0), (5, .int (nI fm)), (3, .int (nI tn)), (0, .ref 36), (1, .int th)]) dX12_journey_111 (by decide) rfl ?_
      refine x_iload dX12_journey_113 0 rfl ?_
      refine x_iconst (v := 3) dX12_journey_115 (by decide) ?_
      refine x_icmp_ge (tgt := 151) dX12_journey_116 (by decide) (fun c_116 => absurd c_116 (by decide)) (fun c_116 => ?_)
      refine x_iload dX12_journey_119 1 rfl ?_
      refine x_if_eq (tgt := 151) dX12_journey_121 (by decide) (fun c_121 => ?_) (fun c_121 => absurd (by decide) c_121)
      refine x_iinc (lv2 := [(5, .int (nI (fm + 10))), (6, .int 0), (4, .int 0), (3, .int (nI tn)), (0, .ref 36), (1, .int th)]) dX12_journey_151 2 rfl (nI_add fm 10) (by decide) rfl ?_
      refine x_goto (tgt := 45) dX12_journey_154 (by decide) ?_
      refine x_perm [2, 0, 3, 4, 5] rfl ?_
      exact lm_jg0 htn (by omega) (KF (by rw [legsOk, show legOk tv fm = false from by (unfold legOk; rw [decide_eq_false (by omega), Bool.false_and])]; rfl))
    · refine x_aload_n dX12_journey_68 3 rfl ?_
      refine x_get (v := .ref 37) dX12_journey_69 fX12_7 f36 (by decide) rfl ?_
      refine x_iload dX12_journey_72 1 rfl ?_
      refine x_bipush (v := 7) dX12_journey_74 (by decide) ?_
      refine x_iaddN (a := fm) (b := 7) dX12_journey_76 ?_
      refine x_ialdN (i := (fm + 7)) dX12_journey_77 f37 (by decide) (by omega) (by decide) ?_
      rw [r1 (fm + 7) (by omega)]
      refine x_aload_n dX12_journey_78 3 rfl ?_
      refine x_get (v := .ref 37) dX12_journey_79 fX12_7 f36 (by decide) rfl ?_
      refine x_iload dX12_journey_82 1 rfl ?_
      refine x_bipush (v := 8) dX12_journey_84 (by decide) ?_
      refine x_iaddN (a := fm) (b := 8) dX12_journey_86 ?_
      refine x_ialdN (i := (fm + 8)) dX12_journey_87 f37 (by decide) (by omega) (by decide) ?_
      rw [r1 (fm + 8) (by omega)]
      refine x_iaddN (a := (tv (fm + 7))) (b := (tv (fm + 8))) dX12_journey_88 ?_
      refine x_aload_n dX12_journey_89 3 rfl ?_
      refine x_get (v := .ref 37) dX12_journey_90 fX12_7 f36 (by decide) rfl ?_
      refine x_iload dX12_journey_93 1 rfl ?_
      refine x_bipush (v := 9) dX12_journey_95 (by decide) ?_
      refine x_iaddN (a := fm) (b := 9) dX12_journey_97 ?_
      refine x_ialdN (i := (fm + 9)) dX12_journey_98 f37 (by decide) (by omega) (by decide) ?_
      rw [r1 (fm + 9) (by omega)]
      refine x_iaddN (a := ((tv (fm + 7)) + (tv (fm + 8)))) (b := (tv (fm + 9))) dX12_journey_99 ?_
      refine x_if_leN (tgt := 107) (a := (((tv (fm + 7)) + (tv (fm + 8))) + (tv (fm + 9)))) (by omega) dX12_journey_100 (by decide) (fun c_100 => ?_) (fun c_100 => ?_)
      · refine x_iconst (v := 0) dX12_journey_107 (by decide) ?_
        refine x_istore (lv2 := [(4, .int 0), (5, .int (nI fm)), (3, .int (nI tn)), (0, .ref 36), (1, .int th)]) dX12_journey_108 (by decide) rfl ?_
        refine x_iconst (v := 0) dX12_journey_110 (by decide) ?_
        refine x_istore (lv2 := [(6, .int 0), (4, .int 0), (5, .int (nI fm)), (3, .int (nI tn)), (0, .ref 36), (1, .int th)]) dX12_journey_111 (by decide) rfl ?_
        refine x_iload dX12_journey_113 0 rfl ?_
        refine x_iconst (v := 3) dX12_journey_115 (by decide) ?_
        refine x_icmp_ge (tgt := 151) dX12_journey_116 (by decide) (fun c_116 => absurd c_116 (by decide)) (fun c_116 => ?_)
        refine x_iload dX12_journey_119 1 rfl ?_
        refine x_if_eq (tgt := 151) dX12_journey_121 (by decide) (fun c_121 => ?_) (fun c_121 => absurd (by decide) c_121)
        refine x_iinc (lv2 := [(5, .int (nI (fm + 10))), (6, .int 0), (4, .int 0), (3, .int (nI tn)), (0, .ref 36), (1, .int th)]) dX12_journey_151 2 rfl (nI_add fm 10) (by decide) rfl ?_
        refine x_goto (tgt := 45) dX12_journey_154 (by decide) ?_
        refine x_perm [2, 0, 3, 4, 5] rfl ?_
        exact lm_jg0 htn (by omega) (KF (by rw [legsOk, show legOk tv fm = false from by (unfold legOk; rw [decide_eq_false (by omega), Bool.false_and])]; rfl))
      · refine x_iconst (v := 1) dX12_journey_103 (by decide) ?_
        refine x_goto (tgt := 108) dX12_journey_104 (by decide) ?_
        refine x_istore (lv2 := [(4, .int 1), (5, .int (nI fm)), (3, .int (nI tn)), (0, .ref 36), (1, .int th)]) dX12_journey_108 (by decide) rfl ?_
        refine x_iconst (v := 0) dX12_journey_110 (by decide) ?_
        refine x_istore (lv2 := [(6, .int 0), (4, .int 1), (5, .int (nI fm)), (3, .int (nI tn)), (0, .ref 36), (1, .int th)]) dX12_journey_111 (by decide) rfl ?_
        refine x_perm [0, 1, 2, 3, 4, 5] rfl ?_
        refine lm_jgIn f36 f37 r1 htn htv (by omega) 3 0 rfl (by omega) (fun hg => ?_) (fun hg => ?_)
        · refine x_iinc (lv2 := [(5, .int (nI (fm + 10))), (4, .int 1), (3, .int (nI tn)), (0, .ref 36), (1, .int th)]) dX12_journey_151 1 rfl (nI_add fm 10) (by decide) rfl ?_
          refine x_goto (tgt := 45) dX12_journey_154 (by decide) ?_
          refine x_perm [1, 0, 2, 3, 4] rfl ?_
          exact ih (fm + 10) (by omega) (by omega) (fun q => KT (by rw [legsOk, show legOk tv fm = true from by (unfold legOk; rw [hg, decide_eq_true (by omega), Bool.and_true]), Bool.true_and]; exact q)) (fun q => KF (by rw [legsOk, show legOk tv fm = true from by (unfold legOk; rw [hg, decide_eq_true (by omega), Bool.and_true]), Bool.true_and]; exact q))
        · refine x_iinc (lv2 := [(5, .int (nI (fm + 10))), (4, .int 0), (3, .int (nI tn)), (0, .ref 36), (1, .int th)]) dX12_journey_151 1 rfl (nI_add fm 10) (by decide) rfl ?_
          refine x_goto (tgt := 45) dX12_journey_154 (by decide) ?_
          refine x_perm [1, 0, 2, 3, 4] rfl ?_
          exact lm_jg0 htn (by omega) (KF (by rw [legsOk, show legOk tv fm = false from by (unfold legOk; rw [hg, Bool.and_false])]; rfl))

theorem c_ofR {G : GT} {h : List PE} {thr tpd tdy bks siz too frm knd num sgn flt plc tld lst pfo thk are brk ipd bst : Int32} {wrd : Int64} {bk rec : Nat → Int32} {nw : Nat} {k : Nat} (f36 : h[36]? = some (cO 12 (MO thr tpd tdy bks siz too frm knd num sgn flt plc wrd tld ((nI nw)) lst pfo thk are brk ipd bst))) (f38 : h[38]? = some (cI 10164 bk)) (RH : nw + 484 ≤ 10164 ∧ ∀ j, j < 484 → bk (nw + j) = rec j) (hk : k < 484) : CT G mX12_of 0 0 [.ref 36, .int (nI k)] h (fun o => o = (some (.int (rec k)), h)) := (c_of f36 f38 (by omega)).weaken (fun o ho => by rw [ho, RH.2 k hk])

set_option maxRecDepth 100000 in
set_option maxHeartbeats 4000000 in
theorem c_weightOfR {G : GT} {h : List PE} {thr tpd tdy bks siz too frm knd num sgn flt plc tld lst pfo thk are brk ipd bst : Int32} {wrd : Int64} {bk rec : Nat → Int32} {nw : Nat} {k : Nat} (f36 : h[36]? = some (cO 12 (MO thr tpd tdy bks siz too frm knd num sgn flt plc wrd tld ((nI nw)) lst pfo thk are brk ipd bst))) (f38 : h[38]? = some (cI 10164 bk)) (RH : nw + 484 ≤ 10164 ∧ ∀ j, j < 484 → bk (nw + j) = rec j) (h8 : k < 8) : CT G mX12_weightOf 1 21 [.ref 36, .int (nI k)] h (fun o => o = (some (.int (rec (164 + 24 * k))), h)) := by
  show X (NF G) G mX12_weightOf 1 21 0 [(0, .ref 36), (1, .int (nI k))] [] h _
  refine x_aload_n dX12_weightOf_0 0 rfl ?_
  refine x_sipush (v := 164) dX12_weightOf_1 (by decide) ?_
  refine x_bipush (v := 24) dX12_weightOf_4 (by decide) ?_
  refine x_iload_n dX12_weightOf_6 1 rfl ?_
  refine x_imulN (a := 24) (b := k) dX12_weightOf_7 ?_
  refine x_iaddN (a := 164) (b := (24 * k)) dX12_weightOf_8 ?_
  refine x_callV (rf' := 0) (rl' := 0) [.int (nI (164 + (24 * k)))] [] dX12_weightOf_9 vX12_217 Y_X12_of f36 (by decide) rfl rfl (Nat.le_of_ble_eq_true rfl) (Nat.le_of_ble_eq_true rfl) (by decide) (by decide) (c_ofR f36 f38 RH (by omega)) (fun _ _ e1 => ?_)
  cases e1
  exact x_iret dX12_weightOf_12 rfl rfl

set_option maxRecDepth 100000 in
set_option maxHeartbeats 4000000 in
theorem c_markOfR {G : GT} {h : List PE} {thr tpd tdy bks siz too frm knd num sgn flt plc tld lst pfo thk are brk ipd bst : Int32} {wrd : Int64} {bk rec : Nat → Int32} {nw : Nat} {k : Nat} (f36 : h[36]? = some (cO 12 (MO thr tpd tdy bks siz too frm knd num sgn flt plc wrd tld ((nI nw)) lst pfo thk are brk ipd bst))) (f38 : h[38]? = some (cI 10164 bk)) (RH : nw + 484 ≤ 10164 ∧ ∀ j, j < 484 → bk (nw + j) = rec j) (h8 : k < 8) : CT G mX12_markOf 1 21 [.ref 36, .int (nI k)] h (fun o => o = (some (.int (rec (164 + 24 * k + 4))), h)) := by
  show X (NF G) G mX12_markOf 1 21 0 [(0, .ref 36), (1, .int (nI k))] [] h _
  refine x_aload_n dX12_markOf_0 0 rfl ?_
  refine x_sipush (v := 164) dX12_markOf_1 (by decide) ?_
  refine x_bipush (v := 24) dX12_markOf_4 (by decide) ?_
  refine x_iload_n dX12_markOf_6 1 rfl ?_
  refine x_imulN (a := 24) (b := k) dX12_markOf_7 ?_
  refine x_iaddN (a := 164) (b := (24 * k)) dX12_markOf_8 ?_
  refine x_iconst (v := 4) dX12_markOf_9 (by decide) ?_
  refine x_iaddN (a := (164 + (24 * k))) (b := 4) dX12_markOf_10 ?_
  refine x_callV (rf' := 0) (rl' := 0) [.int (nI ((164 + (24 * k)) + 4))] [] dX12_markOf_11 vX12_217 Y_X12_of f36 (by decide) rfl rfl (Nat.le_of_ble_eq_true rfl) (Nat.le_of_ble_eq_true rfl) (by decide) (by decide) (c_ofR f36 f38 RH (by omega)) (fun _ _ e1 => ?_)
  cases e1
  exact x_iret dX12_markOf_14 rfl rfl

set_option maxRecDepth 100000 in
set_option maxHeartbeats 4000000 in
theorem c_keepsOfR {G : GT} {h : List PE} {thr tpd tdy bks siz too frm knd num sgn flt plc tld lst pfo thk are brk ipd bst : Int32} {wrd : Int64} {bk rec : Nat → Int32} {nw : Nat} {k : Nat} (f36 : h[36]? = some (cO 12 (MO thr tpd tdy bks siz too frm knd num sgn flt plc wrd tld ((nI nw)) lst pfo thk are brk ipd bst))) (f38 : h[38]? = some (cI 10164 bk)) (RH : nw + 484 ≤ 10164 ∧ ∀ j, j < 484 → bk (nw + j) = rec j) (h8 : k < 8) : CT G mX12_keepsOf 1 21 [.ref 36, .int (nI k)] h (fun o => o = (some (.int (rec (4 + 20 * k + 1))), h)) := by
  show X (NF G) G mX12_keepsOf 1 21 0 [(0, .ref 36), (1, .int (nI k))] [] h _
  refine x_aload_n dX12_keepsOf_0 0 rfl ?_
  refine x_iconst (v := 4) dX12_keepsOf_1 (by decide) ?_
  refine x_bipush (v := 20) dX12_keepsOf_2 (by decide) ?_
  refine x_iload_n dX12_keepsOf_4 1 rfl ?_
  refine x_imulN (a := 20) (b := k) dX12_keepsOf_5 ?_
  refine x_iaddN (a := 4) (b := (20 * k)) dX12_keepsOf_6 ?_
  refine x_iconst (v := 1) dX12_keepsOf_7 (by decide) ?_
  refine x_iaddN (a := (4 + (20 * k))) (b := 1) dX12_keepsOf_8 ?_
  refine x_callV (rf' := 0) (rl' := 0) [.int (nI ((4 + (20 * k)) + 1))] [] dX12_keepsOf_9 vX12_217 Y_X12_of f36 (by decide) rfl rfl (Nat.le_of_ble_eq_true rfl) (Nat.le_of_ble_eq_true rfl) (by decide) (by decide) (c_ofR f36 f38 RH (by omega)) (fun _ _ e1 => ?_)
  cases e1
  exact x_iret dX12_keepsOf_12 rfl rfl

set_option maxRecDepth 100000 in
set_option maxHeartbeats 4000000 in
theorem c_takePad {G : GT} {h : List PE} {thr tpd tdy bks siz too frm knd num sgn flt plc tld lst pfo thk are brk ipd bst : Int32} {wrd : Int64} {bk rec : Nat → Int32} {nw : Nat} {k sd : Nat} (f36 : h[36]? = some (cO 12 (MO thr tpd tdy bks siz too frm knd num sgn flt plc wrd tld ((nI nw)) lst pfo thk are brk ipd bst))) (f38 : h[38]? = some (cI 10164 bk)) (RH : nw + 484 ≤ 10164 ∧ ∀ j, j < 484 → bk (nw + j) = rec j) (h8 : k < 8) (h6 : sd < 6) : CT G mX12_takePad 1 21 [.ref 36, .int (nI k), .int (nI sd)] h (fun o => o.1 = some (.int (if rec (164 + 24 * k + 5 + 3 * sd) - 1 < 0 then 0 else 1)) ∧ o.2[36]? = some (cO 12 (MO thr tpd tdy bks siz too frm knd num sgn flt plc wrd tld ((nI nw)) lst ((rec (164 + 24 * k + 5 + 3 * sd) - 1)) ((rec (164 + 24 * k + 5 + 3 * sd + 1))) ((rec (164 + 24 * k + 5 + 3 * sd + 2))) brk ipd bst)) ∧ Sm [36] h o.2) := by
  have sm0 : Sm [36] h h := Sm.rf
  show X (NF G) G mX12_takePad 1 21 0 [(0, .ref 36), (1, .int (nI k)), (2, .int (nI sd))] [] h _
  refine x_sipush (v := 164) dX12_takePad_0 (by decide) ?_
  refine x_bipush (v := 24) dX12_takePad_3 (by decide) ?_
  refine x_iload_n dX12_takePad_5 1 rfl ?_
  refine x_imulN (a := 24) (b := k) dX12_takePad_6 ?_
  refine x_iaddN (a := 164) (b := (24 * k)) dX12_takePad_7 ?_
  refine x_iconst (v := 5) dX12_takePad_8 (by decide) ?_
  refine x_iaddN (a := (164 + (24 * k))) (b := 5) dX12_takePad_9 ?_
  refine x_iconst (v := 3) dX12_takePad_10 (by decide) ?_
  refine x_iload_n dX12_takePad_11 2 rfl ?_
  refine x_imulN (a := 3) (b := sd) dX12_takePad_12 ?_
  refine x_iaddN (a := ((164 + (24 * k)) + 5)) (b := (3 * sd)) dX12_takePad_13 ?_
  refine x_istore_n (lv2 := [(3, .int (nI (((164 + (24 * k)) + 5) + (3 * sd)))), (0, .ref 36), (1, .int (nI k)), (2, .int (nI sd))]) dX12_takePad_14 (by decide) rfl ?_
  refine x_aload_n dX12_takePad_15 1 rfl ?_
  refine x_aload_n dX12_takePad_16 1 rfl ?_
  refine x_iload_n dX12_takePad_17 0 rfl ?_
  refine x_callV (rf' := 0) (rl' := 0) [.int (nI (((164 + (24 * k)) + 5) + (3 * sd)))] [.ref 36] dX12_takePad_18 vX12_217 Y_X12_of f36 (by decide) rfl rfl (Nat.le_of_ble_eq_true rfl) (Nat.le_of_ble_eq_true rfl) (by decide) (by decide) (c_ofR f36 f38 RH (by omega)) (fun _ _ e1 => ?_)
  cases e1
  refine x_iconst (v := 1) dX12_takePad_21 (by decide) ?_
  refine x_isub dX12_takePad_22 ?_
  refine x_put (fs2 := (MO thr tpd tdy bks siz too frm knd num sgn flt plc wrd tld ((nI nw)) lst (((rec ((((164 + (24 * k)) + 5) + (3 * sd)))) - 1)) thk are brk ipd bst)) dX12_takePad_23 fX12_239 (Or.inl rfl) f36 (by decide) rfl rfl (Nat.le_of_ble_eq_true rfl) rfl (fun h2 a3 e4 l5 s6 => ?_)
  have f7 := (e4 38 (by decide)).trans f38
  have sm8 := Sm.put sm0 e4 l5 s6 (by decide)
  refine x_aload_n dX12_takePad_26 1 rfl ?_
  refine x_aload_n dX12_takePad_27 1 rfl ?_
  refine x_iload_n dX12_takePad_28 0 rfl ?_
  refine x_iconst (v := 1) dX12_takePad_29 (by decide) ?_
  refine x_iaddN (a := (((164 + (24 * k)) + 5) + (3 * sd))) (b := 1) dX12_takePad_30 ?_
  refine x_callV (rf' := 0) (rl' := 0) [.int (nI ((((164 + (24 * k)) + 5) + (3 * sd)) + 1))] [.ref 36] dX12_takePad_31 vX12_217 Y_X12_of a3 (by decide) rfl rfl (Nat.le_of_ble_eq_true rfl) (Nat.le_of_ble_eq_true rfl) (by decide) (by decide) (c_ofR a3 f7 RH (by omega)) (fun _ _ e9 => ?_)
  cases e9
  refine x_put (fs2 := (MO thr tpd tdy bks siz too frm knd num sgn flt plc wrd tld ((nI nw)) lst (((rec ((((164 + (24 * k)) + 5) + (3 * sd)))) - 1)) ((rec (((((164 + (24 * k)) + 5) + (3 * sd)) + 1)))) are brk ipd bst)) dX12_takePad_34 fX12_242 (Or.inl rfl) a3 (by decide) rfl rfl (Nat.le_of_ble_eq_true rfl) rfl (fun h10 a11 e12 l13 s14 => ?_)
  have f15 := (e12 38 (by decide)).trans f7
  have sm16 := Sm.put sm8 e12 l13 s14 (by decide)
  refine x_aload_n dX12_takePad_37 1 rfl ?_
  refine x_aload_n dX12_takePad_38 1 rfl ?_
  refine x_iload_n dX12_takePad_39 0 rfl ?_
  refine x_iconst (v := 2) dX12_takePad_40 (by decide) ?_
  refine x_iaddN (a := (((164 + (24 * k)) + 5) + (3 * sd))) (b := 2) dX12_takePad_41 ?_
  refine x_callV (rf' := 0) (rl' := 0) [.int (nI ((((164 + (24 * k)) + 5) + (3 * sd)) + 2))] [.ref 36] dX12_takePad_42 vX12_217 Y_X12_of a11 (by decide) rfl rfl (Nat.le_of_ble_eq_true rfl) (Nat.le_of_ble_eq_true rfl) (by decide) (by decide) (c_ofR a11 f15 RH (by omega)) (fun _ _ e17 => ?_)
  cases e17
  refine x_put (fs2 := (MO thr tpd tdy bks siz too frm knd num sgn flt plc wrd tld ((nI nw)) lst (((rec ((((164 + (24 * k)) + 5) + (3 * sd)))) - 1)) ((rec (((((164 + (24 * k)) + 5) + (3 * sd)) + 1)))) ((rec (((((164 + (24 * k)) + 5) + (3 * sd)) + 2)))) brk ipd bst)) dX12_takePad_45 fX12_245 (Or.inl rfl) a11 (by decide) rfl rfl (Nat.le_of_ble_eq_true rfl) rfl (fun h18 a19 e20 l21 s22 => ?_)
  have f23 := (e20 38 (by decide)).trans f15
  have sm24 := Sm.put sm16 e20 l21 s22 (by decide)
  refine x_aload_n dX12_takePad_48 1 rfl ?_
  refine x_get (v := .int ((rec ((((164 + (24 * k)) + 5) + (3 * sd)))) - 1)) dX12_takePad_49 fX12_239 a19 (by decide) rfl ?_
  refine x_if_lt (tgt := 59) dX12_takePad_52 (by decide) (fun c_52 => ?_) (fun c_52 => ?_)
  · refine x_iconst (v := 0) dX12_takePad_59 (by decide) ?_
    exact x_zret dX12_takePad_60 rfl rfl ⟨by simp [c_52], a19, sm24⟩
  · refine x_iconst (v := 1) dX12_takePad_55 (by decide) ?_
    refine x_goto (tgt := 60) dX12_takePad_56 (by decide) ?_
    exact x_zret dX12_takePad_60 rfl rfl ⟨by simp [c_52], a19, sm24⟩

set_option maxRecDepth 100000 in
set_option maxHeartbeats 4000000 in
theorem l_squeezed {G : GT} {h : List PE} {thr tpd tdy bks siz too frm knd num sgn flt plc tld now pfo thk are brk ipd bst : Int32} {wrd : Int64} {sv : Nat → Int64} {w hh thick area : Int64} {la : Nat} (f36 : h[36]? = some (cO 12 (MO thr tpd tdy bks siz too frm knd num sgn flt plc wrd tld now ((nI la)) pfo thk are brk ipd bst))) (f42 : h[42]? = some (cJ 96 sv)) (hla : la ≤ 95) : ∀ (m k : Nat), la + 1 - k = m → k ≤ la + 1 → X (NF G) G mX12_squeezed 0 0 3 [(9, .int (nI k)), (0, .ref 36), (1, .long w), (3, .long hh), (5, .long thick), (7, .long area)] [] h (fun o => o = (some (.int (sqF sv w hh thick area k (la + 1 - k))), h)) := by
  intro m
  induction m using Nat.strongRecOn with
  | _ m ih =>
    intro k hm hk
    refine x_iload dX12_squeezed_3 0 rfl ?_
    refine x_aload_n dX12_squeezed_5 1 rfl ?_
    refine x_get (v := .int (nI la)) dX12_squeezed_6 fX12_220 f36 (by decide) rfl ?_
    refine x_icmp_gtN (tgt := 56) (a := k) (b := la) (by omega) (by omega) dX12_squeezed_9 (by decide) (fun c_9 => ?_) (fun c_9 => ?_)
    · refine x_bipush (v := (-2)) dX12_squeezed_56 (by decide) ?_
      exact x_iret dX12_squeezed_58 rfl (by rw [show la + 1 - k = 0 by omega]; rfl)
    · refine x_aload_n dX12_squeezed_12 1 rfl ?_
      refine x_get (v := .ref 42) dX12_squeezed_13 fX12_26 f36 (by decide) rfl ?_
      refine x_iload dX12_squeezed_16 0 rfl ?_
      refine x_laldN (i := k) dX12_squeezed_18 f42 (by decide) (by omega) (by decide) ?_
      refine x_lload dX12_squeezed_19 5 rfl ?_
      refine x_lmul dX12_squeezed_21 ?_
      refine x_lload dX12_squeezed_22 4 rfl ?_
      refine x_lmul dX12_squeezed_24 ?_
      refine x_ldc2 (v := 2) dX12_squeezed_25 kX12_230 ?_
      refine x_lload_n dX12_squeezed_28 2 rfl ?_
      refine x_lmul dX12_squeezed_29 ?_
      refine x_ldc2 (v := 100) dX12_squeezed_30 kX12_232 ?_
      refine x_lload_n dX12_squeezed_33 3 rfl ?_
      refine x_lmul dX12_squeezed_34 ?_
      refine x_iload dX12_squeezed_35 0 rfl ?_
      refine x_i2l dX12_squeezed_37 ?_
      refine x_lload dX12_squeezed_38 4 rfl ?_
      refine x_lmul dX12_squeezed_40 ?_
      refine x_ladd dX12_squeezed_41 ?_
      refine x_lmul dX12_squeezed_42 ?_
      refine x_lif_lt (tgt := 50) dX12_squeezed_43 dX12_squeezed_44 (by decide) (fun c_44 => ?_) (fun c_44 => ?_)
      · refine x_iincN (lv2 := [(9, .int (nI (k + 1))), (0, .ref 36), (1, .long w), (3, .long hh), (5, .long thick), (7, .long area)]) dX12_squeezed_50 0 rfl (by decide) rfl ?_
        refine x_goto (tgt := 3) dX12_squeezed_53 (by decide) ?_
        exact (ih (la + 1 - (k + 1)) (by omega) (k + 1) rfl (by omega)).weaken (fun o ho => by rw [ho, show la + 1 - k = (la + 1 - (k + 1)) + 1 by omega, sqF, if_pos c_44])
      · refine x_iload dX12_squeezed_47 0 rfl ?_
        exact x_iret dX12_squeezed_49 rfl (by rw [show la + 1 - k = (la + 1 - (k + 1)) + 1 by omega, sqF, if_neg c_44])

set_option maxRecDepth 100000 in
set_option maxHeartbeats 4000000 in
theorem c_squeezed {G : GT} {h : List PE} {thr tpd tdy bks siz too frm knd num sgn flt plc tld now pfo thk are brk ipd bst : Int32} {wrd : Int64} {sv : Nat → Int64} {w hh thick area : Int64} {la : Nat} (f36 : h[36]? = some (cO 12 (MO thr tpd tdy bks siz too frm knd num sgn flt plc wrd tld now ((nI la)) pfo thk are brk ipd bst))) (f42 : h[42]? = some (cJ 96 sv)) (hla : la ≤ 95) : CT G mX12_squeezed 0 0 [.ref 36, .long w, .long hh, .long thick, .long area] h (fun o => o = (some (.int (sqF sv w hh thick area 0 (la + 1))), h)) := by
  show X (NF G) G mX12_squeezed 0 0 0 [(0, .ref 36), (1, .long w), (3, .long hh), (5, .long thick), (7, .long area)] [] h _
  refine x_iconst (v := 0) dX12_squeezed_0 (by decide) ?_
  refine x_istore (lv2 := [(9, .int 0), (0, .ref 36), (1, .long w), (3, .long hh), (5, .long thick), (7, .long area)]) dX12_squeezed_1 (by decide) rfl ?_
  exact l_squeezed f36 f42 hla (la + 1) 0 rfl (by omega)

set_option maxRecDepth 100000 in
set_option maxHeartbeats 4000000 in
theorem c_blowAt {G : GT} {h : List PE} {thr tpd tdy bks siz too frm knd num sgn flt plc tld now lst pfo thk are brk ipd bst : Int32} {wrd : Int64} {cv : Nat → Int32} {w area : Int64} {x : Nat} (f36 : h[36]? = some (cO 12 (MO thr tpd tdy bks siz too frm knd num sgn flt plc wrd tld now lst pfo thk are brk ipd bst))) (f41 : h[41]? = some (cI 96 cv)) (hx : x < 96) (hw : ¬ w = 0) : CT G mX12_blowAt 0 0 [.ref 36, .int (nI x), .long w, .long area] h (fun o => o = (some (.int (blF (cv x) area w)), h)) := by
  show X (NF G) G mX12_blowAt 0 0 0 [(0, .ref 36), (1, .int (nI x)), (2, .long w), (4, .long area)] [] h _
  refine x_aload_n dX12_blowAt_0 0 rfl ?_
  refine x_get (v := .ref 41) dX12_blowAt_1 fX12_23 f36 (by decide) rfl ?_
  refine x_iload_n dX12_blowAt_4 1 rfl ?_
  refine x_ialdN (i := x) dX12_blowAt_5 f41 (by decide) (by omega) (by decide) ?_
  refine x_i2l dX12_blowAt_6 ?_
  refine x_lload dX12_blowAt_7 3 rfl ?_
  refine x_lmul dX12_blowAt_9 ?_
  refine x_ldc2 (v := 10) dX12_blowAt_10 kX12_234 ?_
  refine x_lmul dX12_blowAt_13 ?_
  refine x_lload_n dX12_blowAt_14 2 rfl ?_
  refine x_ldiv dX12_blowAt_15 hw ?_
  refine x_lstore (lv2 := [(6, .long (((((cv x)).toInt64 * area) * 10) / w)), (0, .ref 36), (1, .int (nI x)), (2, .long w), (4, .long area)]) dX12_blowAt_16 (by decide) rfl ?_
  refine x_lload dX12_blowAt_18 0 rfl ?_
  refine x_ldc2 (v := 2000000000) dX12_blowAt_20 kX12_236 ?_
  refine x_lif_le (tgt := 32) dX12_blowAt_23 dX12_blowAt_24 (by decide) (fun c_24 => ?_) (fun c_24 => ?_)
  · refine x_lload dX12_blowAt_32 0 rfl ?_
    refine x_l2i dX12_blowAt_34 ?_
    exact x_iret dX12_blowAt_35 rfl (by simp [blF, c_24])
  · refine x_ldc (v := 2000000000) dX12_blowAt_27 kX12_238 ?_
    refine x_goto (tgt := 35) dX12_blowAt_29 (by decide) ?_
    exact x_iret dX12_blowAt_35 rfl (by simp [blF, c_24])

set_option maxRecDepth 100000 in
set_option maxHeartbeats 4000000 in
theorem c_holds {G : GT} {h : List PE} {thr tpd tdy bks siz too frm knd num sgn flt plc tld now pfo thk are brk ipd bst : Int32} {wrd : Int64} {cv : Nat → Int32} {sv : Nat → Int64} {w hh mk : Int32} {la : Nat} (f36 : h[36]? = some (cO 12 (MO thr tpd tdy bks siz too frm knd num sgn flt plc wrd tld now ((nI la)) pfo thk are brk ipd bst))) (f41 : h[41]? = some (cI 96 cv)) (f42 : h[42]? = some (cJ 96 sv)) (hla : la ≤ 95) (hw : ¬ w.toInt64 = 0) : CT G mX12_holds 1 29 [.ref 36, .int w, .int hh, .int mk] h (fun o => o = (some (.int (if hoF sv cv (la + 1) thk.toInt64 are.toInt64 w hh mk then 1 else 0)), h)) := by
  show X (NF G) G mX12_holds 1 29 0 [(0, .ref 36), (1, .int w), (2, .int hh), (3, .int mk)] [] h _
  refine x_aload_n dX12_holds_0 0 rfl ?_
  refine x_iload_n dX12_holds_1 1 rfl ?_
  refine x_i2l dX12_holds_2 ?_
  refine x_iload_n dX12_holds_3 2 rfl ?_
  refine x_i2l dX12_holds_4 ?_
  refine x_aload_n dX12_holds_5 0 rfl ?_
  refine x_get (v := .int thk) dX12_holds_6 fX12_242 f36 (by decide) rfl ?_
  refine x_i2l dX12_holds_9 ?_
  refine x_aload_n dX12_holds_10 0 rfl ?_
  refine x_get (v := .int are) dX12_holds_11 fX12_245 f36 (by decide) rfl ?_
  refine x_i2l dX12_holds_14 ?_
  refine x_callV (rf' := 0) (rl' := 0) [.long w.toInt64, .long hh.toInt64, .long thk.toInt64, .long are.toInt64] [] dX12_holds_15 vX12_258 Y_X12_squeezed f36 (by decide) rfl rfl (Nat.le_of_ble_eq_true rfl) (Nat.le_of_ble_eq_true rfl) (by decide) (by decide) (c_squeezed f36 f42 hla) (fun _ _ e1 => ?_)
  cases e1
  refine x_istore (lv2 := [(4, .int (sqF sv w.toInt64 hh.toInt64 thk.toInt64 are.toInt64 0 (la + 1))), (0, .ref 36), (1, .int w), (2, .int hh), (3, .int mk)]) dX12_holds_18 (by decide) rfl ?_
  rcases sqF_cases sv w.toInt64 hh.toInt64 thk.toInt64 are.toInt64 (la + 1) 0 with e9 | ⟨x, x1, x2, e9⟩
  · rw [e9]
    refine x_iload dX12_holds_20 0 rfl ?_
    refine x_if_lt (tgt := 46) dX12_holds_22 (by decide) (fun c_22 => ?_) (fun c_22 => absurd (by decide) c_22)
    refine x_iconst (v := 0) dX12_holds_46 (by decide) ?_
    exact x_zret dX12_holds_47 rfl rfl (by simp [hoF, e9])
  · rw [e9]
    refine x_iload dX12_holds_20 0 rfl ?_
    refine x_if_ltN (a := x) (by omega) (tgt := 46) dX12_holds_22 (by decide) ?_
    refine x_aload_n dX12_holds_25 1 rfl ?_
    refine x_iload dX12_holds_26 0 rfl ?_
    refine x_iload_n dX12_holds_28 2 rfl ?_
    refine x_i2l dX12_holds_29 ?_
    refine x_aload_n dX12_holds_30 1 rfl ?_
    refine x_get (v := .int are) dX12_holds_31 fX12_245 f36 (by decide) rfl ?_
    refine x_i2l dX12_holds_34 ?_
    refine x_callV (rf' := 0) (rl' := 0) [.int (nI x), .long w.toInt64, .long are.toInt64] [] dX12_holds_35 vX12_266 Y_X12_blowAt f36 (by decide) rfl rfl (Nat.le_of_ble_eq_true rfl) (Nat.le_of_ble_eq_true rfl) (by decide) (by decide) (c_blowAt f36 f41 (by omega) hw) (fun _ _ e2 => ?_)
    cases e2
    refine x_iload_n dX12_holds_38 4 rfl ?_
    refine x_icmp_gt (tgt := 46) dX12_holds_39 (by decide) (fun c_39 => ?_) (fun c_39 => ?_)
    · refine x_iconst (v := 0) dX12_holds_46 (by decide) ?_
      exact x_zret dX12_holds_47 rfl rfl (by have h9 : ¬ nI x < 0 := nI_pos (by omega); simp [hoF, e9, h9, nI_clamp (show x < 2 ^ 31 by omega), c_39])
    · refine x_iconst (v := 1) dX12_holds_42 (by decide) ?_
      refine x_goto (tgt := 47) dX12_holds_43 (by decide) ?_
      exact x_zret dX12_holds_47 rfl rfl (by have h9 : ¬ nI x < 0 := nI_pos (by omega); simp [hoF, e9, h9, nI_clamp (show x < 2 ^ 31 by omega), c_39])

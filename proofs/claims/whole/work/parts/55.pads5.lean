def s_setPk (s : ST) (n : Nat) (pk : Nat → Int32) : ST := (s.1, s.2.1, n, s.2.2.2.1, s.2.2.2.2.1, s.2.2.2.2.2.1, s.2.2.2.2.2.2.1, s.2.2.2.2.2.2.2.1, s.2.2.2.2.2.2.2.2.1, pk, s.2.2.2.2.2.2.2.2.2.2)

set_option maxRecDepth 100000 in
set_option maxHeartbeats 4000000 in
theorem lm_axes {G : GT} {h : List PE} {s : ST} {t hh : Int32} {k bx b an : Nat} {siz too frm knd num sgn plc : Int32} {wrd : Int64} {tld lst pfo thk ipd : Int32} {bk k3 k4 k5 k6 k7 : Nat → Int32} (hk : k < 8) (hb : bx < 8) (h20 : s_tn s ≤ 20) (RH : 484 * b + 484 ≤ 10164 ∧ ∀ j, j < 484 → bk (484 * b + j) = sR s t j) (hI : ∀ j, j < s_tn s / 2 → k3 j = kTk (s_tv s) j ∧ k4 j = kCo (sR s t) (nI an) (s_tv s) j ∧ k7 j = if kHo (sR s t) k (nI an) hh (s_tv s) j = true then 1 else 0) (f36 : h[36]? = some (cO 12 (MO 0 0 ((nI (s_td s))) ((nI (s_n s))) siz too frm knd num sgn ((s_fl s)) plc wrd tld ((nI (484 * b))) lst pfo thk ((nI an)) ((s_br s)) ipd ((s_bs s))))) (f38 : h[38]? = some (cI 10164 bk)) (f45 : h[45]? = some (cI 10 k3)) (f46 : h[46]? = some (cI 10 k4)) (f47 : h[47]? = some (cI 6 k5)) (f48 : h[48]? = some (cI 6 k6)) (f49 : h[49]? = some (cZ 10 k7)) : X (NF G) G mX12_pads 3 65 282 [(7, .int (nI (s_tn s / 2))), (0, .ref 36), (1, .int (nI k)), (2, .int (nI bx))] [] h (fun o => Sm [36, 47, 48] h o.2 ∧ ∃ (ip : Int32) (y5 y6 : Nat → Int32), o.2[36]? = some (cO 12 (MO 0 0 ((nI (s_td s))) ((nI (s_n s))) siz too frm knd num sgn ((s_fl s)) plc wrd tld ((nI (484 * b))) lst pfo thk ((nI an)) ((s_br s)) ip ((s_bs s)))) ∧ o.2[47]? = some (cI 6 y5) ∧ o.2[48]? = some (cI 6 y6) ∧ match spPa (pdR (sR s t) k bx (nI an) hh (s_tn s) (s_tv s)) with | none => o.1 = some (.int (-1)) ∧ y5 = k5 ∧ ip = ipd | some x => o.1 = some (.int x.1) ∧ (∀ j, j < 6 → y5 j = x.2 j) ∧ ip = 1) := by
  have sm0 : Sm [36, 47, 48] h h := Sm.rf
  refine x_iconst (v := 0) dX12_pads_282 (by decide) ?_
  refine x_istore (lv2 := [(8, .int 0), (7, .int (nI (s_tn s / 2))), (0, .ref 36), (1, .int (nI k)), (2, .int (nI bx))]) dX12_pads_283 (by decide) rfl ?_
  refine x_iconst (v := 0) dX12_pads_285 (by decide) ?_
  refine x_istore (lv2 := [(9, .int 0), (8, .int 0), (7, .int (nI (s_tn s / 2))), (0, .ref 36), (1, .int (nI k)), (2, .int (nI bx))]) dX12_pads_286 (by decide) rfl ?_
  refine x_iload dX12_pads_288 0 rfl ?_
  refine x_iconst (v := 3) dX12_pads_290 (by decide) ?_
  refine x_icmp_ge (tgt := 486) dX12_pads_291 (by decide) (fun c_291 => absurd c_291 (by decide)) (fun c_291 => ?_)
  refine x_iconst (v := (-1)) dX12_pads_294 (by decide) ?_
  refine x_istore (lv2 := [(10, .int (-1)), (9, .int 0), (8, .int 0), (7, .int (nI (s_tn s / 2))), (0, .ref 36), (1, .int (nI k)), (2, .int (nI bx))]) dX12_pads_295 (by decide) rfl ?_
  refine x_aload_n dX12_pads_297 4 rfl ?_
  refine x_sipush (v := 356) dX12_pads_298 (by decide) ?_
  refine x_bipush (v := 6) dX12_pads_301 (by decide) ?_
  refine x_iload_n dX12_pads_303 6 rfl ?_
  refine x_imulN (a := 6) (b := bx) dX12_pads_304 ?_
  refine x_iaddN (a := 356) (b := (6 * bx)) dX12_pads_305 ?_
  refine x_iload dX12_pads_306 1 rfl ?_
  refine x_iaddN (a := (356 + (6 * bx))) (b := 0) dX12_pads_308 ?_
  refine x_callV (rf' := 0) (rl' := 0) [.int (nI ((356 + (6 * bx)) + 0))] [] dX12_pads_309 vX12_217 Y_X12_of f36 (by decide) rfl rfl (Nat.le_of_ble_eq_true rfl) (Nat.le_of_ble_eq_true rfl) (by decide) (by decide) (c_ofR (k := ((356 + (6 * bx)) + 0)) f36 f38 RH (by omega)) (fun _ _ e101 => ?_)
  cases e101
  refine x_aload_n dX12_pads_312 4 rfl ?_
  refine x_sipush (v := 164) dX12_pads_313 (by decide) ?_
  refine x_bipush (v := 24) dX12_pads_316 (by decide) ?_
  refine x_iload_n dX12_pads_318 5 rfl ?_
  refine x_imulN (a := 24) (b := k) dX12_pads_319 ?_
  refine x_iaddN (a := 164) (b := (24 * k)) dX12_pads_320 ?_
  refine x_iconst (v := 1) dX12_pads_321 (by decide) ?_
  refine x_iaddN (a := (164 + (24 * k))) (b := 1) dX12_pads_322 ?_
  refine x_iload dX12_pads_323 1 rfl ?_
  refine x_iaddN (a := ((164 + (24 * k)) + 1)) (b := 0) dX12_pads_325 ?_
  refine x_callV (rf' := 0) (rl' := 0) [.int (nI (((164 + (24 * k)) + 1) + 0))] [.int ((sR s t) (((356 + (6 * bx)) + 0)))] dX12_pads_326 vX12_217 Y_X12_of f36 (by decide) rfl rfl (Nat.le_of_ble_eq_true rfl) (Nat.le_of_ble_eq_true rfl) (by decide) (by decide) (c_ofR (k := (((164 + (24 * k)) + 1) + 0)) f36 f38 RH (by omega)) (fun _ _ e102 => ?_)
  cases e102
  refine x_isub dX12_pads_329 ?_
  refine x_istore (lv2 := [(11, .int (((sR s t) (((356 + (6 * bx)) + 0))) - ((sR s t) ((((164 + (24 * k)) + 1) + 0))))), (10, .int (-1)), (9, .int 0), (8, .int 0), (7, .int (nI (s_tn s / 2))), (0, .ref 36), (1, .int (nI k)), (2, .int (nI bx))]) dX12_pads_330 (by decide) rfl ?_
  refine x_iconst (v := 0) dX12_pads_332 (by decide) ?_
  refine x_istore (lv2 := [(12, .int 0), (11, .int (((sR s t) (((356 + (6 * bx)) + 0))) - ((sR s t) ((((164 + (24 * k)) + 1) + 0))))), (10, .int (-1)), (9, .int 0), (8, .int 0), (7, .int (nI (s_tn s / 2))), (0, .ref 36), (1, .int (nI k)), (2, .int (nI bx))]) dX12_pads_333 (by decide) rfl ?_
  refine x_perm (lv2 := [(12, .int (nI 0)), (10, .int ((-1 : Int32), 0, 0).1), (11, .int (((sR s t) (((356 + (6 * bx)) + 0))) - ((sR s t) ((((164 + (24 * k)) + 1) + 0))))), (9, .int (nI 0)), (8, .int 0), (7, .int (nI (s_tn s / 2))), (0, .ref 36), (1, .int (nI k)), (2, .int (nI bx))]) [0, 2, 1, 3, 4, 5, 6, 7, 8] rfl ?_
  refine lm_pairI (K := s_tn s / 2) (ax := 0) (ho := (kHo (sR s t) k (nI an) hh (s_tv s))) (co := (kCo (sR s t) (nI an) (s_tv s))) (tk := (kTk (s_tv s))) (by omega) (by decide) hI (s_tn s / 2) 0 (-1, 0, 0) _ h rfl (by omega) f36 f45 f46 f48 f49 Sm.rf ⟨fun j _ _ => rfl, fun q => absurd rfl q⟩ (fun h103 y104 g107 g108 g109 g110 g111 sm106 P105 => ?_)
  have f112 := sm106.at f38 (by decide)
  have f113 := sm106.at f47 (by decide)
  have sm114 := sm0.tr (sm106.wide (by decide))
  change X _ _ _ _ _ _ [(10, .int ((pdR (sR s t) k bx (nI an) hh (s_tn s) (s_tv s)) 0).1), (9, .int 0), (8, .int 0), (7, .int (nI (s_tn s / 2))), (0, .ref 36), (1, .int (nI k)), (2, .int (nI bx))] _ _ _
  refine x_iload dX12_pads_465 0 rfl ?_
  refine x_iconst (v := (-1)) dX12_pads_467 (by decide) ?_
  refine x_icmp_ne (tgt := 473) dX12_pads_468 (by decide) (fun c_468 => ?_) (fun c_468 => ?_)
  · have d0 := c_468
    refine x_iload dX12_pads_473 2 rfl ?_
    refine x_iload dX12_pads_475 0 rfl ?_
    refine x_iadd dX12_pads_477 ?_
    refine x_istore (lv2 := [(8, .int (0 + ((pdR (sR s t) k bx (nI an) hh (s_tn s) (s_tv s)) 0).1)), (10, .int ((pdR (sR s t) k bx (nI an) hh (s_tn s) (s_tv s)) 0).1), (9, .int 0), (7, .int (nI (s_tn s / 2))), (0, .ref 36), (1, .int (nI k)), (2, .int (nI bx))]) dX12_pads_478 (by decide) rfl ?_
    refine x_iinc (lv2 := [(9, .int 1), (8, .int (0 + ((pdR (sR s t) k bx (nI an) hh (s_tn s) (s_tv s)) 0).1)), (10, .int ((pdR (sR s t) k bx (nI an) hh (s_tn s) (s_tv s)) 0).1), (7, .int (nI (s_tn s / 2))), (0, .ref 36), (1, .int (nI k)), (2, .int (nI bx))]) dX12_pads_480 2 rfl (by decide) (by decide) rfl ?_
    refine x_goto (tgt := 288) dX12_pads_483 (by decide) ?_
    refine x_iload dX12_pads_288 0 rfl ?_
    refine x_iconst (v := 3) dX12_pads_290 (by decide) ?_
    refine x_icmp_ge (tgt := 486) dX12_pads_291 (by decide) (fun c_291 => absurd c_291 (by decide)) (fun c_291 => ?_)
    refine x_iconst (v := (-1)) dX12_pads_294 (by decide) ?_
    refine x_istore (lv2 := [(10, .int (-1)), (9, .int 1), (8, .int (0 + ((pdR (sR s t) k bx (nI an) hh (s_tn s) (s_tv s)) 0).1)), (7, .int (nI (s_tn s / 2))), (0, .ref 36), (1, .int (nI k)), (2, .int (nI bx))]) dX12_pads_295 (by decide) rfl ?_
    refine x_aload_n dX12_pads_297 4 rfl ?_
    refine x_sipush (v := 356) dX12_pads_298 (by decide) ?_
    refine x_bipush (v := 6) dX12_pads_301 (by decide) ?_
    refine x_iload_n dX12_pads_303 6 rfl ?_
    refine x_imulN (a := 6) (b := bx) dX12_pads_304 ?_
    refine x_iaddN (a := 356) (b := (6 * bx)) dX12_pads_305 ?_
    refine x_iload dX12_pads_306 1 rfl ?_
    refine x_iaddN (a := (356 + (6 * bx))) (b := 1) dX12_pads_308 ?_
    refine x_callV (rf' := 0) (rl' := 0) [.int (nI ((356 + (6 * bx)) + 1))] [] dX12_pads_309 vX12_217 Y_X12_of g107 (by decide) rfl rfl (Nat.le_of_ble_eq_true rfl) (Nat.le_of_ble_eq_true rfl) (by decide) (by decide) (c_ofR (k := ((356 + (6 * bx)) + 1)) g107 f112 RH (by omega)) (fun _ _ e115 => ?_)
    cases e115
    refine x_aload_n dX12_pads_312 4 rfl ?_
    refine x_sipush (v := 164) dX12_pads_313 (by decide) ?_
    refine x_bipush (v := 24) dX12_pads_316 (by decide) ?_
    refine x_iload_n dX12_pads_318 5 rfl ?_
    refine x_imulN (a := 24) (b := k) dX12_pads_319 ?_
    refine x_iaddN (a := 164) (b := (24 * k)) dX12_pads_320 ?_
    refine x_iconst (v := 1) dX12_pads_321 (by decide) ?_
    refine x_iaddN (a := (164 + (24 * k))) (b := 1) dX12_pads_322 ?_
    refine x_iload dX12_pads_323 1 rfl ?_
    refine x_iaddN (a := ((164 + (24 * k)) + 1)) (b := 1) dX12_pads_325 ?_
    refine x_callV (rf' := 0) (rl' := 0) [.int (nI (((164 + (24 * k)) + 1) + 1))] [.int ((sR s t) (((356 + (6 * bx)) + 1)))] dX12_pads_326 vX12_217 Y_X12_of g107 (by decide) rfl rfl (Nat.le_of_ble_eq_true rfl) (Nat.le_of_ble_eq_true rfl) (by decide) (by decide) (c_ofR (k := (((164 + (24 * k)) + 1) + 1)) g107 f112 RH (by omega)) (fun _ _ e116 => ?_)
    cases e116
    refine x_isub dX12_pads_329 ?_
    refine x_istore (lv2 := [(11, .int (((sR s t) (((356 + (6 * bx)) + 1))) - ((sR s t) ((((164 + (24 * k)) + 1) + 1))))), (10, .int (-1)), (9, .int 1), (8, .int (0 + ((pdR (sR s t) k bx (nI an) hh (s_tn s) (s_tv s)) 0).1)), (7, .int (nI (s_tn s / 2))), (0, .ref 36), (1, .int (nI k)), (2, .int (nI bx))]) dX12_pads_330 (by decide) rfl ?_
    refine x_iconst (v := 0) dX12_pads_332 (by decide) ?_
    refine x_istore (lv2 := [(12, .int 0), (11, .int (((sR s t) (((356 + (6 * bx)) + 1))) - ((sR s t) ((((164 + (24 * k)) + 1) + 1))))), (10, .int (-1)), (9, .int 1), (8, .int (0 + ((pdR (sR s t) k bx (nI an) hh (s_tn s) (s_tv s)) 0).1)), (7, .int (nI (s_tn s / 2))), (0, .ref 36), (1, .int (nI k)), (2, .int (nI bx))]) dX12_pads_333 (by decide) rfl ?_
    refine x_perm (lv2 := [(12, .int (nI 0)), (10, .int ((-1 : Int32), 0, 0).1), (11, .int (((sR s t) (((356 + (6 * bx)) + 1))) - ((sR s t) ((((164 + (24 * k)) + 1) + 1))))), (9, .int (nI 1)), (8, .int (0 + ((pdR (sR s t) k bx (nI an) hh (s_tn s) (s_tv s)) 0).1)), (7, .int (nI (s_tn s / 2))), (0, .ref 36), (1, .int (nI k)), (2, .int (nI bx))]) [0, 2, 1, 3, 4, 5, 6, 7, 8] rfl ?_
    refine lm_pairI (K := s_tn s / 2) (ax := 1) (ho := (kHo (sR s t) k (nI an) hh (s_tv s))) (co := (kCo (sR s t) (nI an) (s_tv s))) (tk := (kTk (s_tv s))) (by omega) (by decide) hI (s_tn s / 2) 0 (-1, 0, 0) _ h103 rfl (by omega) g107 g108 g109 g110 g111 Sm.rf ⟨fun j _ _ => rfl, fun q => absurd rfl q⟩ (fun h117 y118 g121 g122 g123 g124 g125 sm120 P119 => ?_)
    have f126 := sm120.at f112 (by decide)
    have f127 := sm120.at f113 (by decide)
    have sm128 := sm114.tr (sm120.wide (by decide))
    change X _ _ _ _ _ _ [(10, .int ((pdR (sR s t) k bx (nI an) hh (s_tn s) (s_tv s)) 1).1), (9, .int 1), (8, .int (0 + ((pdR (sR s t) k bx (nI an) hh (s_tn s) (s_tv s)) 0).1)), (7, .int (nI (s_tn s / 2))), (0, .ref 36), (1, .int (nI k)), (2, .int (nI bx))] _ _ _
    refine x_iload dX12_pads_465 0 rfl ?_
    refine x_iconst (v := (-1)) dX12_pads_467 (by decide) ?_
    refine x_icmp_ne (tgt := 473) dX12_pads_468 (by decide) (fun c_468 => ?_) (fun c_468 => ?_)
    · have d1 := c_468
      refine x_iload dX12_pads_473 2 rfl ?_
      refine x_iload dX12_pads_475 0 rfl ?_
      refine x_iadd dX12_pads_477 ?_
      refine x_istore (lv2 := [(8, .int ((0 + ((pdR (sR s t) k bx (nI an) hh (s_tn s) (s_tv s)) 0).1) + ((pdR (sR s t) k bx (nI an) hh (s_tn s) (s_tv s)) 1).1)), (10, .int ((pdR (sR s t) k bx (nI an) hh (s_tn s) (s_tv s)) 1).1), (9, .int 1), (7, .int (nI (s_tn s / 2))), (0, .ref 36), (1, .int (nI k)), (2, .int (nI bx))]) dX12_pads_478 (by decide) rfl ?_
      refine x_iinc (lv2 := [(9, .int 2), (8, .int ((0 + ((pdR (sR s t) k bx (nI an) hh (s_tn s) (s_tv s)) 0).1) + ((pdR (sR s t) k bx (nI an) hh (s_tn s) (s_tv s)) 1).1)), (10, .int ((pdR (sR s t) k bx (nI an) hh (s_tn s) (s_tv s)) 1).1), (7, .int (nI (s_tn s / 2))), (0, .ref 36), (1, .int (nI k)), (2, .int (nI bx))]) dX12_pads_480 2 rfl (by decide) (by decide) rfl ?_
      refine x_goto (tgt := 288) dX12_pads_483 (by decide) ?_
      refine x_iload dX12_pads_288 0 rfl ?_
      refine x_iconst (v := 3) dX12_pads_290 (by decide) ?_
      refine x_icmp_ge (tgt := 486) dX12_pads_291 (by decide) (fun c_291 => absurd c_291 (by decide)) (fun c_291 => ?_)
      refine x_iconst (v := (-1)) dX12_pads_294 (by decide) ?_
      refine x_istore (lv2 := [(10, .int (-1)), (9, .int 2), (8, .int ((0 + ((pdR (sR s t) k bx (nI an) hh (s_tn s) (s_tv s)) 0).1) + ((pdR (sR s t) k bx (nI an) hh (s_tn s) (s_tv s)) 1).1)), (7, .int (nI (s_tn s / 2))), (0, .ref 36), (1, .int (nI k)), (2, .int (nI bx))]) dX12_pads_295 (by decide) rfl ?_
      refine x_aload_n dX12_pads_297 4 rfl ?_
      refine x_sipush (v := 356) dX12_pads_298 (by decide) ?_
      refine x_bipush (v := 6) dX12_pads_301 (by decide) ?_
      refine x_iload_n dX12_pads_303 6 rfl ?_
      refine x_imulN (a := 6) (b := bx) dX12_pads_304 ?_
      refine x_iaddN (a := 356) (b := (6 * bx)) dX12_pads_305 ?_
      refine x_iload dX12_pads_306 1 rfl ?_
      refine x_iaddN (a := (356 + (6 * bx))) (b := 2) dX12_pads_308 ?_
      refine x_callV (rf' := 0) (rl' := 0) [.int (nI ((356 + (6 * bx)) + 2))] [] dX12_pads_309 vX12_217 Y_X12_of g121 (by decide) rfl rfl (Nat.le_of_ble_eq_true rfl) (Nat.le_of_ble_eq_true rfl) (by decide) (by decide) (c_ofR (k := ((356 + (6 * bx)) + 2)) g121 f126 RH (by omega)) (fun _ _ e129 => ?_)
      cases e129
      refine x_aload_n dX12_pads_312 4 rfl ?_
      refine x_sipush (v := 164) dX12_pads_313 (by decide) ?_
      refine x_bipush (v := 24) dX12_pads_316 (by decide) ?_
      refine x_iload_n dX12_pads_318 5 rfl ?_
      refine x_imulN (a := 24) (b := k) dX12_pads_319 ?_
      refine x_iaddN (a := 164) (b := (24 * k)) dX12_pads_320 ?_
      refine x_iconst (v := 1) dX12_pads_321 (by decide) ?_
      refine x_iaddN (a := (164 + (24 * k))) (b := 1) dX12_pads_322 ?_
      refine x_iload dX12_pads_323 1 rfl ?_
      refine x_iaddN (a := ((164 + (24 * k)) + 1)) (b := 2) dX12_pads_325 ?_
      refine x_callV (rf' := 0) (rl' := 0) [.int (nI (((164 + (24 * k)) + 1) + 2))] [.int ((sR s t) (((356 + (6 * bx)) + 2)))] dX12_pads_326 vX12_217 Y_X12_of g121 (by decide) rfl rfl (Nat.le_of_ble_eq_true rfl) (Nat.le_of_ble_eq_true rfl) (by decide) (by decide) (c_ofR (k := (((164 + (24 * k)) + 1) + 2)) g121 f126 RH (by omega)) (fun _ _ e130 => ?_)
      cases e130
      refine x_isub dX12_pads_329 ?_
      refine x_istore (lv2 := [(11, .int (((sR s t) (((356 + (6 * bx)) + 2))) - ((sR s t) ((((164 + (24 * k)) + 1) + 2))))), (10, .int (-1)), (9, .int 2), (8, .int ((0 + ((pdR (sR s t) k bx (nI an) hh (s_tn s) (s_tv s)) 0).1) + ((pdR (sR s t) k bx (nI an) hh (s_tn s) (s_tv s)) 1).1)), (7, .int (nI (s_tn s / 2))), (0, .ref 36), (1, .int (nI k)), (2, .int (nI bx))]) dX12_pads_330 (by decide) rfl ?_
      refine x_iconst (v := 0) dX12_pads_332 (by decide) ?_
      refine x_istore (lv2 := [(12, .int 0), (11, .int (((sR s t) (((356 + (6 * bx)) + 2))) - ((sR s t) ((((164 + (24 * k)) + 1) + 2))))), (10, .int (-1)), (9, .int 2), (8, .int ((0 + ((pdR (sR s t) k bx (nI an) hh (s_tn s) (s_tv s)) 0).1) + ((pdR (sR s t) k bx (nI an) hh (s_tn s) (s_tv s)) 1).1)), (7, .int (nI (s_tn s / 2))), (0, .ref 36), (1, .int (nI k)), (2, .int (nI bx))]) dX12_pads_333 (by decide) rfl ?_
      refine x_perm (lv2 := [(12, .int (nI 0)), (10, .int ((-1 : Int32), 0, 0).1), (11, .int (((sR s t) (((356 + (6 * bx)) + 2))) - ((sR s t) ((((164 + (24 * k)) + 1) + 2))))), (9, .int (nI 2)), (8, .int ((0 + ((pdR (sR s t) k bx (nI an) hh (s_tn s) (s_tv s)) 0).1) + ((pdR (sR s t) k bx (nI an) hh (s_tn s) (s_tv s)) 1).1)), (7, .int (nI (s_tn s / 2))), (0, .ref 36), (1, .int (nI k)), (2, .int (nI bx))]) [0, 2, 1, 3, 4, 5, 6, 7, 8] rfl ?_
      refine lm_pairI (K := s_tn s / 2) (ax := 2) (ho := (kHo (sR s t) k (nI an) hh (s_tv s))) (co := (kCo (sR s t) (nI an) (s_tv s))) (tk := (kTk (s_tv s))) (by omega) (by decide) hI (s_tn s / 2) 0 (-1, 0, 0) _ h117 rfl (by omega) g121 g122 g123 g124 g125 Sm.rf ⟨fun j _ _ => rfl, fun q => absurd rfl q⟩ (fun h131 y132 g135 g136 g137 g138 g139 sm134 P133 => ?_)
      have f140 := sm134.at f126 (by decide)
      have f141 := sm134.at f127 (by decide)
      have sm142 := sm128.tr (sm134.wide (by decide))
      change X _ _ _ _ _ _ [(10, .int ((pdR (sR s t) k bx (nI an) hh (s_tn s) (s_tv s)) 2).1), (9, .int 2), (8, .int ((0 + ((pdR (sR s t) k bx (nI an) hh (s_tn s) (s_tv s)) 0).1) + ((pdR (sR s t) k bx (nI an) hh (s_tn s) (s_tv s)) 1).1)), (7, .int (nI (s_tn s / 2))), (0, .ref 36), (1, .int (nI k)), (2, .int (nI bx))] _ _ _
      refine x_iload dX12_pads_465 0 rfl ?_
      refine x_iconst (v := (-1)) dX12_pads_467 (by decide) ?_
      refine x_icmp_ne (tgt := 473) dX12_pads_468 (by decide) (fun c_468 => ?_) (fun c_468 => ?_)
      · have d2 := c_468
        refine x_iload dX12_pads_473 2 rfl ?_
        refine x_iload dX12_pads_475 0 rfl ?_
        refine x_iadd dX12_pads_477 ?_
        refine x_istore (lv2 := [(8, .int (((0 + ((pdR (sR s t) k bx (nI an) hh (s_tn s) (s_tv s)) 0).1) + ((pdR (sR s t) k bx (nI an) hh (s_tn s) (s_tv s)) 1).1) + ((pdR (sR s t) k bx (nI an) hh (s_tn s) (s_tv s)) 2).1)), (10, .int ((pdR (sR s t) k bx (nI an) hh (s_tn s) (s_tv s)) 2).1), (9, .int 2), (7, .int (nI (s_tn s / 2))), (0, .ref 36), (1, .int (nI k)), (2, .int (nI bx))]) dX12_pads_478 (by decide) rfl ?_
        refine x_iinc (lv2 := [(9, .int 3), (8, .int (((0 + ((pdR (sR s t) k bx (nI an) hh (s_tn s) (s_tv s)) 0).1) + ((pdR (sR s t) k bx (nI an) hh (s_tn s) (s_tv s)) 1).1) + ((pdR (sR s t) k bx (nI an) hh (s_tn s) (s_tv s)) 2).1)), (10, .int ((pdR (sR s t) k bx (nI an) hh (s_tn s) (s_tv s)) 2).1), (7, .int (nI (s_tn s / 2))), (0, .ref 36), (1, .int (nI k)), (2, .int (nI bx))]) dX12_pads_480 2 rfl (by decide) (by decide) rfl ?_
        refine x_goto (tgt := 288) dX12_pads_483 (by decide) ?_
        refine x_iload dX12_pads_288 0 rfl ?_
        refine x_iconst (v := 3) dX12_pads_290 (by decide) ?_
        refine x_icmp_ge (tgt := 486) dX12_pads_291 (by decide) (fun c_291 => ?_) (fun c_291 => absurd (by decide) c_291)
        refine x_iconst (v := 0) dX12_pads_486 (by decide) ?_
        refine x_istore (lv2 := [(9, .int 0), (8, .int (((0 + ((pdR (sR s t) k bx (nI an) hh (s_tn s) (s_tv s)) 0).1) + ((pdR (sR s t) k bx (nI an) hh (s_tn s) (s_tv s)) 1).1) + ((pdR (sR s t) k bx (nI an) hh (s_tn s) (s_tv s)) 2).1)), (10, .int ((pdR (sR s t) k bx (nI an) hh (s_tn s) (s_tv s)) 2).1), (7, .int (nI (s_tn s / 2))), (0, .ref 36), (1, .int (nI k)), (2, .int (nI bx))]) dX12_pads_487 (by decide) rfl ?_
        refine x_iload dX12_pads_489 0 rfl ?_
        refine x_bipush (v := 6) dX12_pads_491 (by decide) ?_
        refine x_icmp_ge (tgt := 516) dX12_pads_493 (by decide) (fun c_493 => absurd c_493 (by decide)) (fun c_493 => ?_)
        refine x_aload_n dX12_pads_496 4 rfl ?_
        refine x_get (v := .ref 47) dX12_pads_497 fX12_45 g135 (by decide) rfl ?_
        refine x_iload dX12_pads_500 0 rfl ?_
        refine x_aload_n dX12_pads_502 4 rfl ?_
        refine x_get (v := .ref 48) dX12_pads_503 fX12_48 g135 (by decide) rfl ?_
        refine x_iload dX12_pads_506 0 rfl ?_
        refine x_ialdN (i := 0) dX12_pads_508 g138 (by decide) (by omega) (by decide) ?_
        refine x_iastN (i := 0) dX12_pads_509 f141 (by decide) (by omega) (by decide) (fun h143 a144 e145 l146 s147 => ?_)
        have f148 := (e145 36 (by decide)).trans g135
        have f149 := (e145 38 (by decide)).trans f140
        have f150 := (e145 45 (by decide)).trans g136
        have f151 := (e145 46 (by decide)).trans g137
        have f152 := (e145 48 (by decide)).trans g138
        have f153 := (e145 49 (by decide)).trans g139
        have sm154 := Sm.put sm142 e145 l146 s147 (by decide)
        refine x_iinc (lv2 := [(9, .int 1), (8, .int (((0 + ((pdR (sR s t) k bx (nI an) hh (s_tn s) (s_tv s)) 0).1) + ((pdR (sR s t) k bx (nI an) hh (s_tn s) (s_tv s)) 1).1) + ((pdR (sR s t) k bx (nI an) hh (s_tn s) (s_tv s)) 2).1)), (10, .int ((pdR (sR s t) k bx (nI an) hh (s_tn s) (s_tv s)) 2).1), (7, .int (nI (s_tn s / 2))), (0, .ref 36), (1, .int (nI k)), (2, .int (nI bx))]) dX12_pads_510 0 rfl (by decide) (by decide) rfl ?_
        refine x_goto (tgt := 489) dX12_pads_513 (by decide) ?_
        refine x_iload dX12_pads_489 0 rfl ?_
        refine x_bipush (v := 6) dX12_pads_491 (by decide) ?_
        refine x_icmp_ge (tgt := 516) dX12_pads_493 (by decide) (fun c_493 => absurd c_493 (by decide)) (fun c_493 => ?_)
        refine x_aload_n dX12_pads_496 4 rfl ?_
        refine x_get (v := .ref 47) dX12_pads_497 fX12_45 f148 (by decide) rfl ?_
        refine x_iload dX12_pads_500 0 rfl ?_
        refine x_aload_n dX12_pads_502 4 rfl ?_
        refine x_get (v := .ref 48) dX12_pads_503 fX12_48 f148 (by decide) rfl ?_
        refine x_iload dX12_pads_506 0 rfl ?_
        refine x_ialdN (i := 1) dX12_pads_508 f152 (by decide) (by omega) (by decide) ?_
        refine x_iastN (i := 1) dX12_pads_509 a144 (by decide) (by omega) (by decide) (fun h155 a156 e157 l158 s159 => ?_)
        have f160 := (e157 36 (by decide)).trans f148
        have f161 := (e157 38 (by decide)).trans f149
        have f162 := (e157 45 (by decide)).trans f150
        have f163 := (e157 46 (by decide)).trans f151
        have f164 := (e157 48 (by decide)).trans f152
        have f165 := (e157 49 (by decide)).trans f153
        have sm166 := Sm.put sm154 e157 l158 s159 (by decide)
        refine x_iinc (lv2 := [(9, .int 2), (8, .int (((0 + ((pdR (sR s t) k bx (nI an) hh (s_tn s) (s_tv s)) 0).1) + ((pdR (sR s t) k bx (nI an) hh (s_tn s) (s_tv s)) 1).1) + ((pdR (sR s t) k bx (nI an) hh (s_tn s) (s_tv s)) 2).1)), (10, .int ((pdR (sR s t) k bx (nI an) hh (s_tn s) (s_tv s)) 2).1), (7, .int (nI (s_tn s / 2))), (0, .ref 36), (1, .int (nI k)), (2, .int (nI bx))]) dX12_pads_510 0 rfl (by decide) (by decide) rfl ?_
        refine x_goto (tgt := 489) dX12_pads_513 (by decide) ?_
        refine x_iload dX12_pads_489 0 rfl ?_
        refine x_bipush (v := 6) dX12_pads_491 (by decide) ?_
        refine x_icmp_ge (tgt := 516) dX12_pads_493 (by decide) (fun c_493 => absurd c_493 (by decide)) (fun c_493 => ?_)
        refine x_aload_n dX12_pads_496 4 rfl ?_
        refine x_get (v := .ref 47) dX12_pads_497 fX12_45 f160 (by decide) rfl ?_
        refine x_iload dX12_pads_500 0 rfl ?_
        refine x_aload_n dX12_pads_502 4 rfl ?_
        refine x_get (v := .ref 48) dX12_pads_503 fX12_48 f160 (by decide) rfl ?_
        refine x_iload dX12_pads_506 0 rfl ?_
        refine x_ialdN (i := 2) dX12_pads_508 f164 (by decide) (by omega) (by decide) ?_
        refine x_iastN (i := 2) dX12_pads_509 a156 (by decide) (by omega) (by decide) (fun h167 a168 e169 l170 s171 => ?_)
        have f172 := (e169 36 (by decide)).trans f160
        have f173 := (e169 38 (by decide)).trans f161
        have f174 := (e169 45 (by decide)).trans f162
        have f175 := (e169 46 (by decide)).trans f163
        have f176 := (e169 48 (by decide)).trans f164
        have f177 := (e169 49 (by decide)).trans f165
        have sm178 := Sm.put sm166 e169 l170 s171 (by decide)
        refine x_iinc (lv2 := [(9, .int 3), (8, .int (((0 + ((pdR (sR s t) k bx (nI an) hh (s_tn s) (s_tv s)) 0).1) + ((pdR (sR s t) k bx (nI an) hh (s_tn s) (s_tv s)) 1).1) + ((pdR (sR s t) k bx (nI an) hh (s_tn s) (s_tv s)) 2).1)), (10, .int ((pdR (sR s t) k bx (nI an) hh (s_tn s) (s_tv s)) 2).1), (7, .int (nI (s_tn s / 2))), (0, .ref 36), (1, .int (nI k)), (2, .int (nI bx))]) dX12_pads_510 0 rfl (by decide) (by decide) rfl ?_
        refine x_goto (tgt := 489) dX12_pads_513 (by decide) ?_
        refine x_iload dX12_pads_489 0 rfl ?_
        refine x_bipush (v := 6) dX12_pads_491 (by decide) ?_
        refine x_icmp_ge (tgt := 516) dX12_pads_493 (by decide) (fun c_493 => absurd c_493 (by decide)) (fun c_493 => ?_)
        refine x_aload_n dX12_pads_496 4 rfl ?_
        refine x_get (v := .ref 47) dX12_pads_497 fX12_45 f172 (by decide) rfl ?_
        refine x_iload dX12_pads_500 0 rfl ?_
        refine x_aload_n dX12_pads_502 4 rfl ?_
        refine x_get (v := .ref 48) dX12_pads_503 fX12_48 f172 (by decide) rfl ?_
        refine x_iload dX12_pads_506 0 rfl ?_
        refine x_ialdN (i := 3) dX12_pads_508 f176 (by decide) (by omega) (by decide) ?_
        refine x_iastN (i := 3) dX12_pads_509 a168 (by decide) (by omega) (by decide) (fun h179 a180 e181 l182 s183 => ?_)
        have f184 := (e181 36 (by decide)).trans f172
        have f185 := (e181 38 (by decide)).trans f173
        have f186 := (e181 45 (by decide)).trans f174
        have f187 := (e181 46 (by decide)).trans f175
        have f188 := (e181 48 (by decide)).trans f176
        have f189 := (e181 49 (by decide)).trans f177
        have sm190 := Sm.put sm178 e181 l182 s183 (by decide)
        refine x_iinc (lv2 := [(9, .int 4), (8, .int (((0 + ((pdR (sR s t) k bx (nI an) hh (s_tn s) (s_tv s)) 0).1) + ((pdR (sR s t) k bx (nI an) hh (s_tn s) (s_tv s)) 1).1) + ((pdR (sR s t) k bx (nI an) hh (s_tn s) (s_tv s)) 2).1)), (10, .int ((pdR (sR s t) k bx (nI an) hh (s_tn s) (s_tv s)) 2).1), (7, .int (nI (s_tn s / 2))), (0, .ref 36), (1, .int (nI k)), (2, .int (nI bx))]) dX12_pads_510 0 rfl (by decide) (by decide) rfl ?_
        refine x_goto (tgt := 489) dX12_pads_513 (by decide) ?_
        refine x_iload dX12_pads_489 0 rfl ?_
        refine x_bipush (v := 6) dX12_pads_491 (by decide) ?_
        refine x_icmp_ge (tgt := 516) dX12_pads_493 (by decide) (fun c_493 => absurd c_493 (by decide)) (fun c_493 => ?_)
        refine x_aload_n dX12_pads_496 4 rfl ?_
        refine x_get (v := .ref 47) dX12_pads_497 fX12_45 f184 (by decide) rfl ?_
        refine x_iload dX12_pads_500 0 rfl ?_
        refine x_aload_n dX12_pads_502 4 rfl ?_
        refine x_get (v := .ref 48) dX12_pads_503 fX12_48 f184 (by decide) rfl ?_
        refine x_iload dX12_pads_506 0 rfl ?_
        refine x_ialdN (i := 4) dX12_pads_508 f188 (by decide) (by omega) (by decide) ?_
        refine x_iastN (i := 4) dX12_pads_509 a180 (by decide) (by omega) (by decide) (fun h191 a192 e193 l194 s195 => ?_)
        have f196 := (e193 36 (by decide)).trans f184
        have f197 := (e193 38 (by decide)).trans f185
        have f198 := (e193 45 (by decide)).trans f186
        have f199 := (e193 46 (by decide)).trans f187
        have f200 := (e193 48 (by decide)).trans f188
        have f201 := (e193 49 (by decide)).trans f189
        have sm202 := Sm.put sm190 e193 l194 s195 (by decide)
        refine x_iinc (lv2 := [(9, .int 5), (8, .int (((0 + ((pdR (sR s t) k bx (nI an) hh (s_tn s) (s_tv s)) 0).1) + ((pdR (sR s t) k bx (nI an) hh (s_tn s) (s_tv s)) 1).1) + ((pdR (sR s t) k bx (nI an) hh (s_tn s) (s_tv s)) 2).1)), (10, .int ((pdR (sR s t) k bx (nI an) hh (s_tn s) (s_tv s)) 2).1), (7, .int (nI (s_tn s / 2))), (0, .ref 36), (1, .int (nI k)), (2, .int (nI bx))]) dX12_pads_510 0 rfl (by decide) (by decide) rfl ?_
        refine x_goto (tgt := 489) dX12_pads_513 (by decide) ?_
        refine x_iload dX12_pads_489 0 rfl ?_
        refine x_bipush (v := 6) dX12_pads_491 (by decide) ?_
        refine x_icmp_ge (tgt := 516) dX12_pads_493 (by decide) (fun c_493 => absurd c_493 (by decide)) (fun c_493 => ?_)
        refine x_aload_n dX12_pads_496 4 rfl ?_
        refine x_get (v := .ref 47) dX12_pads_497 fX12_45 f196 (by decide) rfl ?_
        refine x_iload dX12_pads_500 0 rfl ?_
        refine x_aload_n dX12_pads_502 4 rfl ?_
        refine x_get (v := .ref 48) dX12_pads_503 fX12_48 f196 (by decide) rfl ?_
        refine x_iload dX12_pads_506 0 rfl ?_
        refine x_ialdN (i := 5) dX12_pads_508 f200 (by decide) (by omega) (by decide) ?_
        refine x_iastN (i := 5) dX12_pads_509 a192 (by decide) (by omega) (by decide) (fun h203 a204 e205 l206 s207 => ?_)
        have f208 := (e205 36 (by decide)).trans f196
        have f209 := (e205 38 (by decide)).trans f197
        have f210 := (e205 45 (by decide)).trans f198
        have f211 := (e205 46 (by decide)).trans f199
        have f212 := (e205 48 (by decide)).trans f200
        have f213 := (e205 49 (by decide)).trans f201
        have sm214 := Sm.put sm202 e205 l206 s207 (by decide)
        refine x_iinc (lv2 := [(9, .int 6), (8, .int (((0 + ((pdR (sR s t) k bx (nI an) hh (s_tn s) (s_tv s)) 0).1) + ((pdR (sR s t) k bx (nI an) hh (s_tn s) (s_tv s)) 1).1) + ((pdR (sR s t) k bx (nI an) hh (s_tn s) (s_tv s)) 2).1)), (10, .int ((pdR (sR s t) k bx (nI an) hh (s_tn s) (s_tv s)) 2).1), (7, .int (nI (s_tn s / 2))), (0, .ref 36), (1, .int (nI k)), (2, .int (nI bx))]) dX12_pads_510 0 rfl (by decide) (by decide) rfl ?_
        refine x_goto (tgt := 489) dX12_pads_513 (by decide) ?_
        refine x_iload dX12_pads_489 0 rfl ?_
        refine x_bipush (v := 6) dX12_pads_491 (by decide) ?_
        refine x_icmp_ge (tgt := 516) dX12_pads_493 (by decide) (fun c_493 => ?_) (fun c_493 => absurd (by decide) c_493)
        refine x_aload_n dX12_pads_516 4 rfl ?_
        refine x_iconst (v := 1) dX12_pads_517 (by decide) ?_
        refine x_put (fs2 := (MO 0 0 ((nI (s_td s))) ((nI (s_n s))) siz too frm knd num sgn ((s_fl s)) plc wrd tld ((nI (484 * b))) lst pfo thk ((nI an)) ((s_br s)) 1 ((s_bs s)))) dX12_pads_518 fX12_283 (Or.inl rfl) f208 (by decide) rfl rfl (Nat.le_of_ble_eq_true rfl) rfl (fun h215 a216 e217 l218 s219 => ?_)
        have f220 := (e217 38 (by decide)).trans f209
        have f221 := (e217 45 (by decide)).trans f210
        have f222 := (e217 46 (by decide)).trans f211
        have f223 := (e217 47 (by decide)).trans a204
        have f224 := (e217 48 (by decide)).trans f212
        have f225 := (e217 49 (by decide)).trans f213
        have sm226 := Sm.put sm214 e217 l218 s219 (by decide)
        refine x_iload dX12_pads_521 1 rfl ?_
        exact x_iret dX12_pads_523 rfl ⟨sm226, _, _, _, a216, f223, f224, by rw [show spPa (pdR (sR s t) k bx (nI an) hh (s_tn s) (s_tv s)) = some _ from if_neg (fun q => q.elim d0 (fun q => q.elim d1 d2))]; exact ⟨by rw [Int32.zero_add], lat3 (R := (pdR (sR s t) k bx (nI an) hh (s_tn s) (s_tv s))) d0 d1 d2 P105 P119 P133, rfl⟩⟩
      · refine x_iconst (v := (-1)) dX12_pads_471 (by decide) ?_
        exact x_iret dX12_pads_472 rfl ⟨sm142, _, _, _, g135, f141, g138, by rw [show spPa (pdR (sR s t) k bx (nI an) hh (s_tn s) (s_tv s)) = none from if_pos ((fun z => Or.inr (Or.inr z)) c_468)]; exact ⟨rfl, rfl, rfl⟩⟩
    · refine x_iconst (v := (-1)) dX12_pads_471 (by decide) ?_
      exact x_iret dX12_pads_472 rfl ⟨sm128, _, _, _, g121, f127, g124, by rw [show spPa (pdR (sR s t) k bx (nI an) hh (s_tn s) (s_tv s)) = none from if_pos ((fun z => Or.inr (Or.inl z)) c_468)]; exact ⟨rfl, rfl, rfl⟩⟩
  · refine x_iconst (v := (-1)) dX12_pads_471 (by decide) ?_
    exact x_iret dX12_pads_472 rfl ⟨sm114, _, _, _, g107, f113, g110, by rw [show spPa (pdR (sR s t) k bx (nI an) hh (s_tn s) (s_tv s)) = none from if_pos ((Or.inl) c_468)]; exact ⟨rfl, rfl, rfl⟩⟩

set_option maxRecDepth 100000 in
set_option maxHeartbeats 4000000 in
theorem m_padsN1 {G : GT} {h : List PE} {s : ST} {t : Int32} {th bx ar hh : Int32} (hM : MoR h s) (hW : WS s) (hs : bT (sC s t) th) : CT G mX12_pads 3 65 [.ref 36, .int th, .int bx, .int ar, .int hh, .int t] h (fun o => o.1 = some (.int (spPdA (sR s t) (sC s t) th bx ar hh (s_tn s) (s_tv s))) ∧ MoR o.2 (s_setPk s 0 (spPdK (sR s t) (sC s t) th bx ar hh (s_tn s) (s_tv s) (s_pk s))) ∧ Sm [36, 41, 42, 44, 45, 46, 47, 48, 49] h o.2) := by
  obtain ⟨thr, siz, too, frm, knd, num, sgn, plc, wrd, tld, now, lst, pfo, thk, are, ipd, mt, bk, dy, nm, cv, sv, k1, k2, k3, k4, k5, k6, k7, f36, f37, f38, f39, f40, f41, f42, f43, f44, f45, f46, f47, f48, f49, r1, r2, r3⟩ := hM
  have W := hW.cur t
  have hm : MB (s_n s) dy bk (s_dy s) (s_rc s) := ⟨hW.1, r2⟩
  have sm0 : Sm [36] h h := Sm.rf
  show X (NF G) G mX12_pads 3 65 0 [(0, .ref 36), (1, .int th), (2, .int bx), (3, .int ar), (4, .int hh), (5, .int t)] [] h _
  refine x_aload_n dX12_pads_0 0 rfl ?_
  refine x_iconst (v := 0) dX12_pads_1 (by decide) ?_
  refine x_put (fs2 := (MO 0 ((nI (s_tn s))) ((nI (s_td s))) ((nI (s_n s))) siz too frm knd num sgn ((s_fl s)) plc wrd tld now lst pfo thk are ((s_br s)) ipd ((s_bs s)))) dX12_pads_2 fX12_55 (Or.inl rfl) f36 (by decide) rfl rfl (Nat.le_of_ble_eq_true rfl) rfl (fun h101 a102 e103 l104 s105 => ?_)
  have f106 := (e103 37 (by decide)).trans f37
  have f107 := (e103 38 (by decide)).trans f38
  have f108 := (e103 39 (by decide)).trans f39
  have f109 := (e103 41 (by decide)).trans f41
  have f110 := (e103 42 (by decide)).trans f42
  have sm111 := Sm.put sm0 e103 l104 s105 (by decide)
  refine x_aload_n dX12_pads_5 0 rfl ?_
  refine x_callV (rf' := 0) (rl' := 0) [] [] dX12_pads_6 vX12_201 Y_X12_take a102 (by decide) rfl rfl (Nat.le_of_ble_eq_true rfl) (Nat.le_of_ble_eq_true rfl) (by decide) (by decide) (c_take a102) (fun r h112 e1 => ?_)
  obtain ⟨e0, g113, sm114⟩ := e1
  cases e0
  have f115 := sm114.at f106 (by decide)
  have f116 := sm114.at f107 (by decide)
  have f117 := sm114.at f108 (by decide)
  have f118 := sm114.at f109 (by decide)
  have f119 := sm114.at f110 (by decide)
  have sm120 := sm111.tr (sm114.wide (by decide))
  refine x_istore (lv2 := [(6, .int (nI (s_tn s))), (0, .ref 36), (1, .int th), (2, .int bx), (3, .int ar), (4, .int hh), (5, .int t)]) dX12_pads_9 (by decide) rfl ?_
  refine x_aload_n dX12_pads_11 1 rfl ?_
  refine x_iconst (v := 1) dX12_pads_12 (by decide) ?_
  refine x_iload_n dX12_pads_13 2 rfl ?_
  refine x_iload dX12_pads_14 6 rfl ?_
  refine x_callV (rf' := 2) (rl' := 42) [.int 1, .int th, .int t] [] dX12_pads_16 vX12_223 Y_X12_has g113 (by decide) rfl rfl (Nat.le_of_ble_eq_true rfl) (Nat.le_of_ble_eq_true rfl) (by decide) (by decide) (c_has (q := 1) g113 f116 f117 hm W (by decide)) (fun r h121 e1 => ?_)
  obtain ⟨e0, g122, sm123⟩ := e1
  cases e0
  rw [show cQ (curC (s_n s) (s_dy s) (s_ct s) t) 1 = (sC s t).2.1 from rfl, if_pos hs]
  have f124 := sm123.at f115 (by decide)
  have f125 := sm123.at f116 (by decide)
  have f126 := sm123.at f117 (by decide)
  have f127 := sm123.at f118 (by decide)
  have f128 := sm123.at f119 (by decide)
  have sm129 := sm120.tr (sm123.wide (by decide))
  refine x_if_eq (tgt := 76) dX12_pads_19 (by decide) (fun c_19 => ?_) (fun c_19 => absurd (by decide) c_19)
  refine x_bipush (v := (-2)) dX12_pads_76 (by decide) ?_
  exact x_iret dX12_pads_78 rfl ⟨by rw [spPdA, if_pos (Or.inl hs)], by unfold spPdK; rw [if_pos (Or.inl hs)]; exact (moR (s := s_setPk s 0 (s_pk s)) g122 f124 f125 f126 (sm129.at f40 (by decide)) f127 f128 (sm129.at f43 (by decide)) (sm129.at f44 (by decide)) (sm129.at f45 (by decide)) (sm129.at f46 (by decide)) (sm129.at f47 (by decide)) (sm129.at f48 (by decide)) (sm129.at f49 (by decide)) (fun j hj => absurd hj (Nat.not_lt_zero j)) r2 r3), sm129.wide (by decide)⟩

set_option maxRecDepth 100000 in
set_option maxHeartbeats 4000000 in
theorem m_padsN2 {G : GT} {h : List PE} {s : ST} {t : Int32} {bx ar hh : Int32} {k : Nat} (hM : MoR h s) (hW : WS s) (hk : k < (sC s t).2.1) (hsb : bB (sC s t) bx) : CT G mX12_pads 3 65 [.ref 36, .int (nI k), .int bx, .int ar, .int hh, .int t] h (fun o => o.1 = some (.int (spPdA (sR s t) (sC s t) (nI k) bx ar hh (s_tn s) (s_tv s))) ∧ MoR o.2 (s_setPk s 0 (spPdK (sR s t) (sC s t) (nI k) bx ar hh (s_tn s) (s_tv s) (s_pk s))) ∧ Sm [36, 41, 42, 44, 45, 46, 47, 48, 49] h o.2) := by
  obtain ⟨thr, siz, too, frm, knd, num, sgn, plc, wrd, tld, now, lst, pfo, thk, are, ipd, mt, bk, dy, nm, cv, sv, k1, k2, k3, k4, k5, k6, k7, f36, f37, f38, f39, f40, f41, f42, f43, f44, f45, f46, f47, f48, f49, r1, r2, r3⟩ := hM
  have W := hW.cur t
  have hm : MB (s_n s) dy bk (s_dy s) (s_rc s) := ⟨hW.1, r2⟩
  have w4 := W.2.2.2.1
  have w6 := W.2.2.2.2.2.1
  obtain ⟨b, hlb⟩ := curC_some (n := s_n s) (sdy := s_dy s) (ct := s_ct s) (t := t) hk
  have RH : 484 * b + 484 ≤ 10164 ∧ ∀ j, j < 484 → bk (484 * b + j) = sR s t j := hm.rh hlb
  have nb1 : ¬ bT (sC s t) (nI k) := fun q => q.elim (nI_pos (by omega)) (fun q => absurd ((nI_leI (by omega) (by omega)).mp q) (by omega))
  have sm0 : Sm [36] h h := Sm.rf
  show X (NF G) G mX12_pads 3 65 0 [(0, .ref 36), (1, .int (nI k)), (2, .int bx), (3, .int ar), (4, .int hh), (5, .int t)] [] h _
  refine x_aload_n dX12_pads_0 0 rfl ?_
  refine x_iconst (v := 0) dX12_pads_1 (by decide) ?_
  refine x_put (fs2 := (MO 0 ((nI (s_tn s))) ((nI (s_td s))) ((nI (s_n s))) siz too frm knd num sgn ((s_fl s)) plc wrd tld now lst pfo thk are ((s_br s)) ipd ((s_bs s)))) dX12_pads_2 fX12_55 (Or.inl rfl) f36 (by decide) rfl rfl (Nat.le_of_ble_eq_true rfl) rfl (fun h101 a102 e103 l104 s105 => ?_)
  have f106 := (e103 37 (by decide)).trans f37
  have f107 := (e103 38 (by decide)).trans f38
  have f108 := (e103 39 (by decide)).trans f39
  have f109 := (e103 41 (by decide)).trans f41
  have f110 := (e103 42 (by decide)).trans f42
  have sm111 := Sm.put sm0 e103 l104 s105 (by decide)
  refine x_aload_n dX12_pads_5 0 rfl ?_
  refine x_callV (rf' := 0) (rl' := 0) [] [] dX12_pads_6 vX12_201 Y_X12_take a102 (by decide) rfl rfl (Nat.le_of_ble_eq_true rfl) (Nat.le_of_ble_eq_true rfl) (by decide) (by decide) (c_take a102) (fun r h112 e1 => ?_)
  obtain ⟨e0, g113, sm114⟩ := e1
  cases e0
  have f115 := sm114.at f106 (by decide)
  have f116 := sm114.at f107 (by decide)
  have f117 := sm114.at f108 (by decide)
  have f118 := sm114.at f109 (by decide)
  have f119 := sm114.at f110 (by decide)
  have sm120 := sm111.tr (sm114.wide (by decide))
  refine x_istore (lv2 := [(6, .int (nI (s_tn s))), (0, .ref 36), (1, .int (nI k)), (2, .int bx), (3, .int ar), (4, .int hh), (5, .int t)]) dX12_pads_9 (by decide) rfl ?_
  refine x_aload_n dX12_pads_11 1 rfl ?_
  refine x_iconst (v := 1) dX12_pads_12 (by decide) ?_
  refine x_iload_n dX12_pads_13 2 rfl ?_
  refine x_iload dX12_pads_14 6 rfl ?_
  refine x_callV (rf' := 2) (rl' := 42) [.int 1, .int (nI k), .int t] [] dX12_pads_16 vX12_223 Y_X12_has g113 (by decide) rfl rfl (Nat.le_of_ble_eq_true rfl) (Nat.le_of_ble_eq_true rfl) (by decide) (by decide) (c_has (q := 1) g113 f116 f117 hm W (by decide)) (fun r h121 e1 => ?_)
  obtain ⟨e0, g122, sm123⟩ := e1
  cases e0
  rw [show cQ (curC (s_n s) (s_dy s) (s_ct s) t) 1 = (sC s t).2.1 from rfl, if_neg nb1]
  rw [hlb] at g122
  have g122 : h121[36]? = some (cO 12 (MO 0 0 ((nI (s_td s))) ((nI (s_n s))) siz too frm knd num sgn ((s_fl s)) plc wrd tld ((nI (484 * b))) lst pfo thk are ((s_br s)) ipd ((s_bs s)))) := g122
  have f124 := sm123.at f115 (by decide)
  have f125 := sm123.at f116 (by decide)
  have f126 := sm123.at f117 (by decide)
  have f127 := sm123.at f118 (by decide)
  have f128 := sm123.at f119 (by decide)
  have sm129 := sm120.tr (sm123.wide (by decide))
  refine x_if_eq (tgt := 76) dX12_pads_19 (by decide) (fun c_19 => absurd c_19 (by decide)) (fun c_19 => ?_)
  refine x_aload_n dX12_pads_22 1 rfl ?_
  refine x_iconst (v := 2) dX12_pads_23 (by decide) ?_
  refine x_iload_n dX12_pads_24 3 rfl ?_
  refine x_iload dX12_pads_25 6 rfl ?_
  refine x_callV (rf' := 2) (rl' := 42) [.int 2, .int bx, .int t] [] dX12_pads_27 vX12_223 Y_X12_has g122 (by decide) rfl rfl (Nat.le_of_ble_eq_true rfl) (Nat.le_of_ble_eq_true rfl) (by decide) (by decide) (c_has (q := 2) g122 f125 f126 hm W (by decide)) (fun r h130 e1 => ?_)
  obtain ⟨e0, g131, sm132⟩ := e1
  cases e0
  rw [show cQ (curC (s_n s) (s_dy s) (s_ct s) t) 2 = (sC s t).2.2.1 from rfl, if_pos hsb]
  have f133 := sm132.at f124 (by decide)
  have f134 := sm132.at f125 (by decide)
  have f135 := sm132.at f126 (by decide)
  have f136 := sm132.at f127 (by decide)
  have f137 := sm132.at f128 (by decide)
  have sm138 := sm129.tr (sm132.wide (by decide))
  refine x_if_eq (tgt := 76) dX12_pads_30 (by decide) (fun c_30 => ?_) (fun c_30 => absurd (by decide) c_30)
  refine x_bipush (v := (-2)) dX12_pads_76 (by decide) ?_
  exact x_iret dX12_pads_78 rfl ⟨by rw [spPdA, if_pos (Or.inr (Or.inl hsb))], by unfold spPdK; rw [if_pos (Or.inr (Or.inl hsb))]; exact (moR (s := s_setPk s 0 (s_pk s)) g131 f133 f134 f135 (sm138.at f40 (by decide)) f136 f137 (sm138.at f43 (by decide)) (sm138.at f44 (by decide)) (sm138.at f45 (by decide)) (sm138.at f46 (by decide)) (sm138.at f47 (by decide)) (sm138.at f48 (by decide)) (sm138.at f49 (by decide)) (fun j hj => absurd hj (Nat.not_lt_zero j)) r2 r3), sm138.wide (by decide)⟩

set_option maxRecDepth 100000 in
set_option maxHeartbeats 4000000 in
theorem m_padsS {G : GT} {h : List PE} {s : ST} {t : Int32} {ar hh : Int32} {k bx : Nat} (hM : MoR h s) (hW : WS s) (hk : k < (sC s t).2.1) (hb : bx < (sC s t).2.2.1) : CT G mX12_pads 3 65 [.ref 36, .int (nI k), .int (nI bx), .int ar, .int hh, .int t] h (fun o => o.1 = some (.int (spPdA (sR s t) (sC s t) (nI k) (nI bx) ar hh (s_tn s) (s_tv s))) ∧ MoR o.2 (s_setPk s 0 (spPdK (sR s t) (sC s t) (nI k) (nI bx) ar hh (s_tn s) (s_tv s) (s_pk s))) ∧ Sm [36, 41, 42, 44, 45, 46, 47, 48, 49] h o.2) := by
  obtain ⟨thr, siz, too, frm, knd, num, sgn, plc, wrd, tld, now, lst, pfo, thk, are, ipd, mt, bk, dy, nm, cv, sv, k1, k2, k3, k4, k5, k6, k7, f36, f37, f38, f39, f40, f41, f42, f43, f44, f45, f46, f47, f48, f49, r1, r2, r3⟩ := hM
  have W := hW.cur t
  have hm : MB (s_n s) dy bk (s_dy s) (s_rc s) := ⟨hW.1, r2⟩
  have w4 := W.2.2.2.1
  have w6 := W.2.2.2.2.2.1
  obtain ⟨b, hlb⟩ := curC_some (n := s_n s) (sdy := s_dy s) (ct := s_ct s) (t := t) hk
  have RH : 484 * b + 484 ≤ 10164 ∧ ∀ j, j < 484 → bk (484 * b + j) = sR s t j := hm.rh hlb
  have nb1 : ¬ bT (sC s t) (nI k) := fun q => q.elim (nI_pos (by omega)) (fun q => absurd ((nI_leI (by omega) (by omega)).mp q) (by omega))
  have htn := hW.2.2.1
  have htv := hW.2.2.2.1
  obtain ⟨⟨wn, hw, hw1, hw2⟩, -⟩ := W.2.2.2.2.2.2.2.2.2.1 k hk
  have hw9 := nI_one hw1 (show wn < 2 ^ 31 by omega)
  rw [← hw] at hw9
  have nb3 : ¬ bB (sC s t) (nI bx) := fun q => q.elim (nI_pos (by omega)) (fun q => absurd ((nI_leI (by omega) (by omega)).mp q) (by omega))
  have ck : (nI k).toNatClampNeg = k := nI_clamp (by omega)
  have cb : (nI bx).toNatClampNeg = bx := nI_clamp (by omega)
  have sm0 : Sm [36] h h := Sm.rf
  show X (NF G) G mX12_pads 3 65 0 [(0, .ref 36), (1, .int (nI k)), (2, .int (nI bx)), (3, .int ar), (4, .int hh), (5, .int t)] [] h _
  refine x_aload_n dX12_pads_0 0 rfl ?_
  refine x_iconst (v := 0) dX12_pads_1 (by decide) ?_
  refine x_put (fs2 := (MO 0 ((nI (s_tn s))) ((nI (s_td s))) ((nI (s_n s))) siz too frm knd num sgn ((s_fl s)) plc wrd tld now lst pfo thk are ((s_br s)) ipd ((s_bs s)))) dX12_pads_2 fX12_55 (Or.inl rfl) f36 (by decide) rfl rfl (Nat.le_of_ble_eq_true rfl) rfl (fun h101 a102 e103 l104 s105 => ?_)
  have f106 := (e103 37 (by decide)).trans f37
  have f107 := (e103 38 (by decide)).trans f38
  have f108 := (e103 39 (by decide)).trans f39
  have f109 := (e103 41 (by decide)).trans f41
  have f110 := (e103 42 (by decide)).trans f42
  have sm111 := Sm.put sm0 e103 l104 s105 (by decide)
  refine x_aload_n dX12_pads_5 0 rfl ?_
  refine x_callV (rf' := 0) (rl' := 0) [] [] dX12_pads_6 vX12_201 Y_X12_take a102 (by decide) rfl rfl (Nat.le_of_ble_eq_true rfl) (Nat.le_of_ble_eq_true rfl) (by decide) (by decide) (c_take a102) (fun r h112 e1 => ?_)
  obtain ⟨e0, g113, sm114⟩ := e1
  cases e0
  have f115 := sm114.at f106 (by decide)
  have f116 := sm114.at f107 (by decide)
  have f117 := sm114.at f108 (by decide)
  have f118 := sm114.at f109 (by decide)
  have f119 := sm114.at f110 (by decide)
  have sm120 := sm111.tr (sm114.wide (by decide))
  refine x_istore (lv2 := [(6, .int (nI (s_tn s))), (0, .ref 36), (1, .int (nI k)), (2, .int (nI bx)), (3, .int ar), (4, .int hh), (5, .int t)]) dX12_pads_9 (by decide) rfl ?_
  refine x_aload_n dX12_pads_11 1 rfl ?_
  refine x_iconst (v := 1) dX12_pads_12 (by decide) ?_
  refine x_iload_n dX12_pads_13 2 rfl ?_
  refine x_iload dX12_pads_14 6 rfl ?_
  refine x_callV (rf' := 2) (rl' := 42) [.int 1, .int (nI k), .int t] [] dX12_pads_16 vX12_223 Y_X12_has g113 (by decide) rfl rfl (Nat.le_of_ble_eq_true rfl) (Nat.le_of_ble_eq_true rfl) (by decide) (by decide) (c_has (q := 1) g113 f116 f117 hm W (by decide)) (fun r h121 e1 => ?_)
  obtain ⟨e0, g122, sm123⟩ := e1
  cases e0
  rw [show cQ (curC (s_n s) (s_dy s) (s_ct s) t) 1 = (sC s t).2.1 from rfl, if_neg nb1]
  rw [hlb] at g122
  have g122 : h121[36]? = some (cO 12 (MO 0 0 ((nI (s_td s))) ((nI (s_n s))) siz too frm knd num sgn ((s_fl s)) plc wrd tld ((nI (484 * b))) lst pfo thk are ((s_br s)) ipd ((s_bs s)))) := g122
  have f124 := sm123.at f115 (by decide)
  have f125 := sm123.at f116 (by decide)
  have f126 := sm123.at f117 (by decide)
  have f127 := sm123.at f118 (by decide)
  have f128 := sm123.at f119 (by decide)
  have sm129 := sm120.tr (sm123.wide (by decide))
  refine x_if_eq (tgt := 76) dX12_pads_19 (by decide) (fun c_19 => absurd c_19 (by decide)) (fun c_19 => ?_)
  refine x_aload_n dX12_pads_22 1 rfl ?_
  refine x_iconst (v := 2) dX12_pads_23 (by decide) ?_
  refine x_iload_n dX12_pads_24 3 rfl ?_
  refine x_iload dX12_pads_25 6 rfl ?_
  refine x_callV (rf' := 2) (rl' := 42) [.int 2, .int (nI bx), .int t] [] dX12_pads_27 vX12_223 Y_X12_has g122 (by decide) rfl rfl (Nat.le_of_ble_eq_true rfl) (Nat.le_of_ble_eq_true rfl) (by decide) (by decide) (c_has (q := 2) g122 f125 f126 hm W (by decide)) (fun r h130 e1 => ?_)
  obtain ⟨e0, g131, sm132⟩ := e1
  cases e0
  rw [show cQ (curC (s_n s) (s_dy s) (s_ct s) t) 2 = (sC s t).2.2.1 from rfl, if_neg nb3]
  rw [hlb] at g131
  have g131 : h130[36]? = some (cO 12 (MO 0 0 ((nI (s_td s))) ((nI (s_n s))) siz too frm knd num sgn ((s_fl s)) plc wrd tld ((nI (484 * b))) lst pfo thk are ((s_br s)) ipd ((s_bs s)))) := g131
  have f133 := sm132.at f124 (by decide)
  have f134 := sm132.at f125 (by decide)
  have f135 := sm132.at f126 (by decide)
  have f136 := sm132.at f127 (by decide)
  have f137 := sm132.at f128 (by decide)
  have sm138 := sm129.tr (sm132.wide (by decide))
  refine x_if_eq (tgt := 76) dX12_pads_30 (by decide) (fun c_30 => absurd c_30 (by decide)) (fun c_30 => ?_)
  refine x_iload_n dX12_pads_33 4 rfl ?_
  refine x_iconst (v := 1) dX12_pads_34 (by decide) ?_
  refine x_sipush (v := 2000) dX12_pads_35 (by decide) ?_
  refine x_callS (rf' := 0) (rl' := 0) [.int ar, .int 1, .int 2000] [] dX12_pads_38 vX12_65 Y_X12_isIn rfl rfl (Nat.le_of_ble_eq_true rfl) (Nat.le_of_ble_eq_true rfl) (by decide) (by decide) c_isIn (fun _ _ e139 => ?_)
  cases e139
  by_cases hA : bA ar
  · rw [if_pos hA]
    refine x_if_eq (tgt := 76) dX12_pads_41 (by decide) (fun c_41 => ?_) (fun c_41 => absurd (by decide) c_41)
    refine x_bipush (v := (-2)) dX12_pads_76 (by decide) ?_
    exact x_iret dX12_pads_78 rfl ⟨by rw [spPdA, if_pos (Or.inr (Or.inr (Or.inl hA)))], by unfold spPdK; rw [if_pos (Or.inr (Or.inr (Or.inl hA)))]; exact (moR (s := s_setPk s 0 (s_pk s)) g131 f133 f134 f135 (sm138.at f40 (by decide)) f136 f137 (sm138.at f43 (by decide)) (sm138.at f44 (by decide)) (sm138.at f45 (by decide)) (sm138.at f46 (by decide)) (sm138.at f47 (by decide)) (sm138.at f48 (by decide)) (sm138.at f49 (by decide)) (fun j hj => absurd hj (Nat.not_lt_zero j)) r2 r3), sm138.wide (by decide)⟩
  · rw [if_neg hA]
    refine x_if_eq (tgt := 76) dX12_pads_41 (by decide) (fun c_41 => absurd c_41 (by decide)) (fun c_41 => ?_)
    refine x_iload dX12_pads_44 5 rfl ?_
    refine x_iconst (v := 0) dX12_pads_46 (by decide) ?_
    refine x_sipush (v := 30000) dX12_pads_47 (by decide) ?_
    refine x_callS (rf' := 0) (rl' := 0) [.int hh, .int 0, .int 30000] [] dX12_pads_50 vX12_65 Y_X12_isIn rfl rfl (Nat.le_of_ble_eq_true rfl) (Nat.le_of_ble_eq_true rfl) (by decide) (by decide) c_isIn (fun _ _ e140 => ?_)
    cases e140
    by_cases hH : bH hh
    · rw [if_pos hH]
      refine x_if_eq (tgt := 76) dX12_pads_53 (by decide) (fun c_53 => ?_) (fun c_53 => absurd (by decide) c_53)
      refine x_bipush (v := (-2)) dX12_pads_76 (by decide) ?_
      exact x_iret dX12_pads_78 rfl ⟨by rw [spPdA, if_pos (Or.inr (Or.inr (Or.inr (Or.inl hH))))], by unfold spPdK; rw [if_pos (Or.inr (Or.inr (Or.inr (Or.inl hH))))]; exact (moR (s := s_setPk s 0 (s_pk s)) g131 f133 f134 f135 (sm138.at f40 (by decide)) f136 f137 (sm138.at f43 (by decide)) (sm138.at f44 (by decide)) (sm138.at f45 (by decide)) (sm138.at f46 (by decide)) (sm138.at f47 (by decide)) (sm138.at f48 (by decide)) (sm138.at f49 (by decide)) (fun j hj => absurd hj (Nat.not_lt_zero j)) r2 r3), sm138.wide (by decide)⟩
    · rw [if_neg hH]
      refine x_if_eq (tgt := 76) dX12_pads_53 (by decide) (fun c_53 => absurd c_53 (by decide)) (fun c_53 => ?_)
      refine x_iload dX12_pads_56 0 rfl ?_
      refine x_iconst (v := 2) dX12_pads_58 (by decide) ?_
      refine x_iremN (a := (s_tn s)) (b := 2) (by omega) (by omega) (by omega) dX12_pads_59 ?_
      refine x_if_neN (tgt := 76) (a := ((s_tn s) % 2)) (by omega) dX12_pads_60 (by decide) (fun c_60 => ?_) (fun c_60 => ?_)
      · refine x_bipush (v := (-2)) dX12_pads_76 (by decide) ?_
        exact x_iret dX12_pads_78 rfl ⟨by rw [spPdA, if_pos (Or.inr (Or.inr (Or.inr (Or.inr (fun z : kdsOk (sC s t).1 (s_tn s) (s_tv s) => by have z1 := z.1; have z2 := z.2.1; have z3 := z.2.2.1; omega)))))], by unfold spPdK; rw [if_pos (Or.inr (Or.inr (Or.inr (Or.inr (fun z : kdsOk (sC s t).1 (s_tn s) (s_tv s) => by have z1 := z.1; have z2 := z.2.1; have z3 := z.2.2.1; omega)))))]; exact (moR (s := s_setPk s 0 (s_pk s)) g131 f133 f134 f135 (sm138.at f40 (by decide)) f136 f137 (sm138.at f43 (by decide)) (sm138.at f44 (by decide)) (sm138.at f45 (by decide)) (sm138.at f46 (by decide)) (sm138.at f47 (by decide)) (sm138.at f48 (by decide)) (sm138.at f49 (by decide)) (fun j hj => absurd hj (Nat.not_lt_zero j)) r2 r3), sm138.wide (by decide)⟩
      · refine x_iload dX12_pads_63 0 rfl ?_
        refine x_iconst (v := 2) dX12_pads_65 (by decide) ?_
        refine x_idivN (a := (s_tn s)) (b := 2) (by omega) (by omega) (by omega) dX12_pads_66 ?_
        refine x_iconst (v := 1) dX12_pads_67 (by decide) ?_
        refine x_bipush (v := 10) dX12_pads_68 (by decide) ?_
        refine x_callS (rf' := 0) (rl' := 0) [.int (nI ((s_tn s) / 2)), .int 1, .int 10] [] dX12_pads_70 vX12_65 Y_X12_isIn rfl rfl (Nat.le_of_ble_eq_true rfl) (Nat.le_of_ble_eq_true rfl) (by decide) (by decide) c_isIn (fun _ _ x1 => ?_)
        cases x1
        by_cases hq : 1 ≤ s_tn s / 2 ∧ s_tn s / 2 ≤ 10
        · rw [if_neg (fun q => q.elim (fun q => absurd ((nI_ltI (b := 1) (by omega) (by decide)).mp q) (by omega)) (fun q => absurd ((nI_ltI (a := 10) (by decide) (by omega)).mp q) (by omega)))]
          refine x_if_ne (tgt := 79) dX12_pads_73 (by decide) (fun c_73 => ?_) (fun c_73 => absurd c_73 (by decide))
          refine x_iload dX12_pads_79 0 rfl ?_
          refine x_iconst (v := 2) dX12_pads_81 (by decide) ?_
          refine x_idivN (a := (s_tn s)) (b := 2) (by omega) (by omega) (by omega) dX12_pads_82 ?_
          refine x_istore (lv2 := [(7, .int (nI ((s_tn s) / 2))), (6, .int (nI (s_tn s))), (0, .ref 36), (1, .int (nI k)), (2, .int (nI bx)), (3, .int ar), (4, .int hh), (5, .int t)]) dX12_pads_83 (by decide) rfl ?_
          refine x_iconst (v := 0) dX12_pads_85 (by decide) ?_
          refine x_istore (lv2 := [(8, .int 0), (7, .int (nI ((s_tn s) / 2))), (6, .int (nI (s_tn s))), (0, .ref 36), (1, .int (nI k)), (2, .int (nI bx)), (3, .int ar), (4, .int hh), (5, .int t)]) dX12_pads_86 (by decide) rfl ?_
          refine x_perm [0, 1, 3, 4, 5, 6, 7] rfl ?_
          refine lm_kdOk g131 f133 f134 W RH r1 htv (by omega) (by omega) (s_tn s / 2) 0 rfl (by omega) (fun hkk => ?_) (fun hkk => ?_)
          · have hK : kdsOk (sC s t).1 (s_tn s) (s_tv s) := ⟨by omega, by omega, by omega, hkk⟩
            obtain ⟨an, ha, rfl⟩ := ix_le (m := 2000) (by decide) (x := ar) (fun q => hA (q.elim (fun z => Or.inl (Int32.lt_trans z (by decide))) Or.inr))
            refine x_aload_n dX12_pads_141 1 rfl ?_
            refine x_iload_n dX12_pads_142 4 rfl ?_
            refine x_put (fs2 := (MO 0 0 ((nI (s_td s))) ((nI (s_n s))) siz too frm knd num sgn ((s_fl s)) plc wrd tld ((nI (484 * b))) lst pfo thk ((nI an)) ((s_br s)) ipd ((s_bs s)))) dX12_pads_143 fX12_245 (Or.inl rfl) g131 (by decide) rfl rfl (Nat.le_of_ble_eq_true rfl) rfl (fun h141 a142 e143 l144 s145 => ?_)
            have f146 := (e143 37 (by decide)).trans f133
            have f147 := (e143 38 (by decide)).trans f134
            have f148 := (e143 39 (by decide)).trans f135
            have f149 := (e143 41 (by decide)).trans f136
            have f150 := (e143 42 (by decide)).trans f137
            have sm151 := Sm.put sm138 e143 l144 s145 (by decide)
            refine x_iconst (v := 0) dX12_pads_146 (by decide) ?_
            refine x_istore (lv2 := [(8, .int 0), (7, .int (nI (s_tn s / 2))), (0, .ref 36), (1, .int (nI k)), (2, .int (nI bx)), (3, .int (nI an)), (4, .int hh)]) dX12_pads_147 (by decide) rfl ?_
            refine x_perm [0, 1, 2, 3, 4, 5, 6] rfl ?_
            have f152 := sm151.at f44 (by decide)
            have f153 := sm151.at f45 (by decide)
            have f154 := sm151.at f46 (by decide)
            have f155 := sm151.at f49 (by decide)
            refine lm_kinds (b := b) (ipd := ipd) W hk ha RH r1 hK hw9.2 (fun h8 y2 y3 y4 y7 sm8 hS8 hI8 => ?_) (s_tn s / 2) 0 _ _ _ _ h141 rfl (by omega) Sm.rf ⟨_, _, _, _, _, _, _, _, _, _, _, _, _, _, a142, f146, f147, f149, f150, f152, f153, f154, f155⟩ (fun j hj => absurd hj (Nat.not_lt_zero j))
            obtain ⟨siz8, too8, frm8, knd8, num8, sgn8, plc8, wrd8, tld8, lst8, pfo8, thk8, cv8, sv8, p36, p37, p38, p41, p42, p44, p45, p46, p49⟩ := id hS8
            have sm7 : Sm [36, 41, 42, 44, 45, 46, 47, 48, 49] h h8 := (sm151.wide (by decide)).tr (sm8.wide (by decide))
            refine (lm_axes (by omega) (by omega) (by omega) RH hI8 p36 p38 p45 p46 (sm8.at (sm151.at f47 (by decide)) (by decide)) (sm8.at (sm151.at f48 (by decide)) (by decide)) p49).weaken (fun o ho => ?_)
            obtain ⟨o1, ip, y5, y6, o36, o47, o48, o4⟩ := ho
            have sm9 := sm7.tr (o1.wide (by decide))
            have nbad : ¬ bPd (sC s t) (nI k) (nI bx) (nI an) hh (s_tn s) (s_tv s) := fun q => q.elim nb1 (fun q => q.elim nb3 (fun q => q.elim hA (fun q => q.elim hH (fun q => q hK))))
            unfold spPdA spPdK
            rw [if_neg nbad, if_neg nbad, ck, cb]
            cases eP : spPa (pdR (sR s t) k bx (nI an) hh (s_tn s) (s_tv s)) with
            | none =>
              rw [eP] at o4
              obtain ⟨o5, rfl, rfl⟩ := o4
              exact ⟨o5, (moR (s := s_setPk s 0 _) o36 (o1.at p37 (by decide)) (o1.at p38 (by decide)) (sm9.at f39 (by decide)) (sm9.at f40 (by decide)) (o1.at p41 (by decide)) (o1.at p42 (by decide)) (sm9.at f43 (by decide)) (o1.at p44 (by decide)) (o1.at p45 (by decide)) (o1.at p46 (by decide)) o47 o48 (o1.at p49 (by decide)) (fun j hj => absurd hj (Nat.not_lt_zero j)) r2 r3), sm9⟩
            | some x =>
              rw [eP] at o4
              obtain ⟨o5, o6, rfl⟩ := o4
              exact ⟨o5, (moR (s := s_setPk s 0 _) o36 (o1.at p37 (by decide)) (o1.at p38 (by decide)) (sm9.at f39 (by decide)) (sm9.at f40 (by decide)) (o1.at p41 (by decide)) (o1.at p42 (by decide)) (sm9.at f43 (by decide)) (o1.at p44 (by decide)) (o1.at p45 (by decide)) (o1.at p46 (by decide)) o47 o48 (o1.at p49 (by decide)) (fun j hj => absurd hj (Nat.not_lt_zero j)) r2 (Or.inr ⟨rfl, o6⟩)), sm9⟩
          · exact ⟨by rw [spPdA, if_pos (Or.inr (Or.inr (Or.inr (Or.inr (fun z => by rw [z.2.2.2] at hkk; cases hkk)))))], by unfold spPdK; rw [if_pos (Or.inr (Or.inr (Or.inr (Or.inr (fun z => by rw [z.2.2.2] at hkk; cases hkk)))))]; exact (moR (s := s_setPk s 0 (s_pk s)) g131 f133 f134 f135 (sm138.at f40 (by decide)) f136 f137 (sm138.at f43 (by decide)) (sm138.at f44 (by decide)) (sm138.at f45 (by decide)) (sm138.at f46 (by decide)) (sm138.at f47 (by decide)) (sm138.at f48 (by decide)) (sm138.at f49 (by decide)) (fun j hj => absurd hj (Nat.not_lt_zero j)) r2 r3), sm138.wide (by decide)⟩
        · rw [if_pos (show nI (s_tn s / 2) < 1 ∨ (10 : Int32) < nI (s_tn s / 2) from (Classical.em (1 ≤ s_tn s / 2)).elim (fun z => Or.inr ((nI_ltI (a := 10) (by decide) (by omega)).mpr (by omega))) (fun z => Or.inl ((nI_ltI (b := 1) (by omega) (by decide)).mpr (by omega))))]
          refine x_if_ne (tgt := 79) dX12_pads_73 (by decide) (fun c_73 => absurd (by decide) c_73) (fun c_73 => ?_)
          refine x_bipush (v := (-2)) dX12_pads_76 (by decide) ?_
          exact x_iret dX12_pads_78 rfl ⟨by rw [spPdA, if_pos (Or.inr (Or.inr (Or.inr (Or.inr (fun z : kdsOk (sC s t).1 (s_tn s) (s_tv s) => by have z1 := z.1; have z2 := z.2.1; have z3 := z.2.2.1; omega)))))], by unfold spPdK; rw [if_pos (Or.inr (Or.inr (Or.inr (Or.inr (fun z : kdsOk (sC s t).1 (s_tn s) (s_tv s) => by have z1 := z.1; have z2 := z.2.1; have z3 := z.2.2.1; omega)))))]; exact (moR (s := s_setPk s 0 (s_pk s)) g131 f133 f134 f135 (sm138.at f40 (by decide)) f136 f137 (sm138.at f43 (by decide)) (sm138.at f44 (by decide)) (sm138.at f45 (by decide)) (sm138.at f46 (by decide)) (sm138.at f47 (by decide)) (sm138.at f48 (by decide)) (sm138.at f49 (by decide)) (fun j hj => absurd hj (Nat.not_lt_zero j)) r2 r3), sm138.wide (by decide)⟩

theorem m_pads {G : GT} {h : List PE} {s : ST} {t : Int32} {th bx ar hh : Int32} (hM : MoR h s) (hW : WS s) : CT G mX12_pads 3 65 [.ref 36, .int th, .int bx, .int ar, .int hh, .int t] h (fun o => o.1 = some (.int (spPdA (sR s t) (sC s t) th bx ar hh (s_tn s) (s_tv s))) ∧ MoR o.2 (s_setPk s 0 (spPdK (sR s t) (sC s t) th bx ar hh (s_tn s) (s_tv s) (s_pk s))) ∧ Sm [36, 41, 42, 44, 45, 46, 47, 48, 49] h o.2) := by
  have W := hW.cur t
  by_cases h1 : bT (sC s t) th
  · exact m_padsN1 hM hW h1
  · obtain ⟨k, hk, rfl⟩ := ix_of (by have := W.2.2.2.1; omega) h1
    by_cases h2 : bB (sC s t) bx
    · exact m_padsN2 hM hW hk h2
    · obtain ⟨b, hb, rfl⟩ := ix_of (by have := W.2.2.2.2.2.1; omega) h2
      exact m_padsS hM hW hk hb

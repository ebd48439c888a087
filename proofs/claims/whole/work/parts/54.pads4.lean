theorem z7c {ho : Bool} {z : Int32} (e : z = if ho = true then 1 else 0) : (z = 0 → ¬ ho = true) ∧ (¬ z = 0 → ho = true) := by
  by_cases q : ho = true
  · rw [if_pos q] at e
    exact ⟨fun z1 => absurd (e.symm.trans z1) (by decide), fun _ => q⟩
  · rw [if_neg q] at e
    exact ⟨fun _ => q, fun z1 => absurd e z1⟩

set_option maxRecDepth 100000 in
set_option maxHeartbeats 4000000 in
theorem lm_pairJ {G : GT} {h0 : List PE} {thr tpd tdy bks siz too frm knd num sgn flt plc tld now lst pfo thk are brk ipd bst : Int32} {wrd : Int64} {K ax : Nat} {k3 k4 k6 k7 : Nat → Int32} {ho : Nat → Bool} {co tk : Nat → Int32} {free sum th bx : Int32} (hK : K ≤ 10) (hax : ax < 3) (e3 : ∀ q, q < K → k3 q = tk q ∧ k4 q = co q ∧ k7 q = if ho q = true then 1 else 0) {i : Nat} (hi : i < K) {Q : OT → Prop} : ∀ (m j : Nat) (s : Int32 × Nat × Nat) (y6 : Nat → Int32) (h : List PE), K - j = m → j ≤ K → h[36]? = some (cO 12 (MO thr tpd tdy bks siz too frm knd num sgn flt plc wrd tld now lst pfo thk are brk ipd bst)) → h[45]? = some (cI 10 k3) → h[46]? = some (cI 10 k4) → h[48]? = some (cI 6 y6) → h[49]? = some (cZ 10 k7) → Sm [48] h0 h → PSt k6 y6 ax s → (∀ (h : List PE) (y6 : Nat → Int32), h[36]? = some (cO 12 (MO thr tpd tdy bks siz too frm knd num sgn flt plc wrd tld now lst pfo thk are brk ipd bst)) → h[45]? = some (cI 10 k3) → h[46]? = some (cI 10 k4) → h[48]? = some (cI 6 y6) → h[49]? = some (cZ 10 k7) → Sm [48] h0 h → PSt k6 y6 ax (pjJ ho co tk free i m j s) → X (NF G) G mX12_pads 3 65 459 [(12, .int (nI i)), (10, .int (pjJ ho co tk free i m j s).1), (11, .int free), (9, .int (nI ax)), (8, .int sum), (7, .int (nI K)), (0, .ref 36), (1, .int th), (2, .int bx)] [] h Q) → X (NF G) G mX12_pads 3 65 345 [(13, .int (nI j)), (12, .int (nI i)), (10, .int s.1), (11, .int free), (9, .int (nI ax)), (8, .int sum), (7, .int (nI K)), (0, .ref 36), (1, .int th), (2, .int bx)] [] h Q := by
  intro m
  induction m with
  | zero =>
    intro j s y6 h hm hj f36 f45 f46 f48 f49 sm hP KX
    refine x_iload dX12_pads_345 0 rfl ?_
    refine x_iload dX12_pads_347 6 rfl ?_
    refine x_icmp_geN (tgt := 459) (a := j) (b := K) (by omega) (by omega) dX12_pads_349 (by decide) (fun c_349 => ?_) (fun c_349 => absurd (by omega) c_349)
    refine x_perm [1, 2, 3, 4, 5, 6, 7, 8, 9] rfl ?_
    exact KX h y6 f36 f45 f46 f48 f49 sm hP
  | succ m ih =>
    intro j s y6 h hm hj f36 f45 f46 f48 f49 sm hP KX
    obtain ⟨t1, p1, a1⟩ := e3 i hi
    obtain ⟨t2, p2, b1⟩ := e3 j (by omega)
    refine x_iload dX12_pads_345 0 rfl ?_
    refine x_iload dX12_pads_347 6 rfl ?_
    refine x_icmp_geN (tgt := 459) (a := j) (b := K) (by omega) (by omega) dX12_pads_349 (by decide) (fun c_349 => absurd c_349 (by omega)) (fun c_349 => ?_)
    refine x_aload_n dX12_pads_352 7 rfl ?_
    refine x_get (v := .ref 46) dX12_pads_353 fX12_42 f36 (by decide) rfl ?_
    refine x_iload dX12_pads_356 1 rfl ?_
    refine x_ialdN (i := i) dX12_pads_358 f46 (by decide) (by omega) (by decide) ?_
    refine x_aload_n dX12_pads_359 7 rfl ?_
    refine x_get (v := .ref 46) dX12_pads_360 fX12_42 f36 (by decide) rfl ?_
    refine x_iload dX12_pads_363 0 rfl ?_
    refine x_ialdN (i := j) dX12_pads_365 f46 (by decide) (by omega) (by decide) ?_
    refine x_iadd dX12_pads_366 ?_
    refine x_istore (lv2 := [(14, .int ((k4 i) + (k4 j))), (13, .int (nI j)), (12, .int (nI i)), (10, .int s.1), (11, .int free), (9, .int (nI ax)), (8, .int sum), (7, .int (nI K)), (0, .ref 36), (1, .int th), (2, .int bx)]) dX12_pads_367 (by decide) rfl ?_
    refine x_aload_n dX12_pads_369 8 rfl ?_
    refine x_get (v := .ref 49) dX12_pads_370 fX12_51 f36 (by decide) rfl ?_
    refine x_iload dX12_pads_373 2 rfl ?_
    refine x_zaldN (i := i) dX12_pads_375 f49 (by decide) (by omega) (by decide) ?_
    refine x_if_eq (tgt := 453) dX12_pads_376 (by decide) (fun c_376 => ?_) (fun c_376 => ?_)
    · refine x_iincN (lv2 := [(13, .int (nI (j + 1))), (14, .int ((k4 i) + (k4 j))), (12, .int (nI i)), (10, .int s.1), (11, .int free), (9, .int (nI ax)), (8, .int sum), (7, .int (nI K)), (0, .ref 36), (1, .int th), (2, .int bx)]) dX12_pads_453 1 rfl (by decide) rfl ?_
      refine x_goto (tgt := 345) dX12_pads_456 (by decide) ?_
      refine x_perm [0, 2, 3, 4, 5, 6, 7, 8, 9, 10] rfl ?_
      have eS : pjS ho co tk free i j s = s := if_neg (fun q => (z7c a1).1 c_376 q.1)
      refine ih (j + 1) s y6 h (by omega) (by omega) f36 f45 f46 f48 f49 sm hP ?_
      rw [pjJ, eS] at KX
      exact KX
    · refine x_aload_n dX12_pads_379 8 rfl ?_
      refine x_get (v := .ref 49) dX12_pads_380 fX12_51 f36 (by decide) rfl ?_
      refine x_iload dX12_pads_383 1 rfl ?_
      refine x_zaldN (i := j) dX12_pads_385 f49 (by decide) (by omega) (by decide) ?_
      refine x_if_eq (tgt := 453) dX12_pads_386 (by decide) (fun c_386 => ?_) (fun c_386 => ?_)
      · refine x_iincN (lv2 := [(13, .int (nI (j + 1))), (14, .int ((k4 i) + (k4 j))), (12, .int (nI i)), (10, .int s.1), (11, .int free), (9, .int (nI ax)), (8, .int sum), (7, .int (nI K)), (0, .ref 36), (1, .int th), (2, .int bx)]) dX12_pads_453 1 rfl (by decide) rfl ?_
        refine x_goto (tgt := 345) dX12_pads_456 (by decide) ?_
        refine x_perm [0, 2, 3, 4, 5, 6, 7, 8, 9, 10] rfl ?_
        have eS : pjS ho co tk free i j s = s := if_neg (fun q => (z7c b1).1 c_386 q.2.1)
        refine ih (j + 1) s y6 h (by omega) (by omega) f36 f45 f46 f48 f49 sm hP ?_
        rw [pjJ, eS] at KX
        exact KX
      · refine x_aload_n dX12_pads_389 8 rfl ?_
        refine x_get (v := .ref 45) dX12_pads_390 fX12_39 f36 (by decide) rfl ?_
        refine x_iload dX12_pads_393 2 rfl ?_
        refine x_ialdN (i := i) dX12_pads_395 f45 (by decide) (by omega) (by decide) ?_
        refine x_aload_n dX12_pads_396 8 rfl ?_
        refine x_get (v := .ref 45) dX12_pads_397 fX12_39 f36 (by decide) rfl ?_
        refine x_iload dX12_pads_400 1 rfl ?_
        refine x_ialdN (i := j) dX12_pads_402 f45 (by decide) (by omega) (by decide) ?_
        refine x_iadd dX12_pads_403 ?_
        refine x_iload dX12_pads_404 4 rfl ?_
        refine x_icmp_gt (tgt := 453) dX12_pads_406 (by decide) (fun c_406 => ?_) (fun c_406 => ?_)
        · refine x_iincN (lv2 := [(13, .int (nI (j + 1))), (14, .int ((k4 i) + (k4 j))), (12, .int (nI i)), (10, .int s.1), (11, .int free), (9, .int (nI ax)), (8, .int sum), (7, .int (nI K)), (0, .ref 36), (1, .int th), (2, .int bx)]) dX12_pads_453 1 rfl (by decide) rfl ?_
          refine x_goto (tgt := 345) dX12_pads_456 (by decide) ?_
          refine x_perm [0, 2, 3, 4, 5, 6, 7, 8, 9, 10] rfl ?_
          have eS : pjS ho co tk free i j s = s := if_neg (fun q => absurd q.2.2.1 (by rw [← t1, ← t2]; exact Int32.not_le.mpr c_406))
          refine ih (j + 1) s y6 h (by omega) (by omega) f36 f45 f46 f48 f49 sm hP ?_
          rw [pjJ, eS] at KX
          exact KX
        · refine x_iload dX12_pads_409 3 rfl ?_
          refine x_iconst (v := (-1)) dX12_pads_411 (by decide) ?_
          refine x_icmp_eq (tgt := 425) dX12_pads_412 (by decide) (fun c_412 => ?_) (fun c_412 => ?_)
          · refine x_iload dX12_pads_425 0 rfl ?_
            refine x_istore (lv2 := [(10, .int ((k4 i) + (k4 j))), (14, .int ((k4 i) + (k4 j))), (13, .int (nI j)), (12, .int (nI i)), (11, .int free), (9, .int (nI ax)), (8, .int sum), (7, .int (nI K)), (0, .ref 36), (1, .int th), (2, .int bx)]) dX12_pads_427 (by decide) rfl ?_
            refine x_aload_n dX12_pads_429 8 rfl ?_
            refine x_get (v := .ref 48) dX12_pads_430 fX12_48 f36 (by decide) rfl ?_
            refine x_iconst (v := 2) dX12_pads_433 (by decide) ?_
            refine x_iload dX12_pads_434 5 rfl ?_
            refine x_imulN (a := 2) (b := ax) dX12_pads_436 ?_
            refine x_iload dX12_pads_437 3 rfl ?_
            refine x_iastN (i := (2 * ax)) dX12_pads_439 f48 (by decide) (by omega) (by decide) (fun h101 a102 e103 l104 s105 => ?_)
            have f106 := (e103 36 (by decide)).trans f36
            have f107 := (e103 45 (by decide)).trans f45
            have f108 := (e103 46 (by decide)).trans f46
            have f109 := (e103 49 (by decide)).trans f49
            have sm110 := Sm.put sm e103 l104 s105 (by decide)
            refine x_aload_n dX12_pads_440 8 rfl ?_
            refine x_get (v := .ref 48) dX12_pads_441 fX12_48 f106 (by decide) rfl ?_
            refine x_iconst (v := 2) dX12_pads_444 (by decide) ?_
            refine x_iload dX12_pads_445 5 rfl ?_
            refine x_imulN (a := 2) (b := ax) dX12_pads_447 ?_
            refine x_iconst (v := 1) dX12_pads_448 (by decide) ?_
            refine x_iaddN (a := (2 * ax)) (b := 1) dX12_pads_449 ?_
            refine x_iload dX12_pads_450 2 rfl ?_
            refine x_iastN (i := ((2 * ax) + 1)) dX12_pads_452 a102 (by decide) (by omega) (by decide) (fun h111 a112 e113 l114 s115 => ?_)
            have f116 := (e113 36 (by decide)).trans f106
            have f117 := (e113 45 (by decide)).trans f107
            have f118 := (e113 46 (by decide)).trans f108
            have f119 := (e113 49 (by decide)).trans f109
            have sm120 := Sm.put sm110 e113 l114 s115 (by decide)
            refine x_iincN (lv2 := [(13, .int (nI (j + 1))), (10, .int ((k4 i) + (k4 j))), (14, .int ((k4 i) + (k4 j))), (12, .int (nI i)), (11, .int free), (9, .int (nI ax)), (8, .int sum), (7, .int (nI K)), (0, .ref 36), (1, .int th), (2, .int bx)]) dX12_pads_453 2 rfl (by decide) rfl ?_
            refine x_goto (tgt := 345) dX12_pads_456 (by decide) ?_
            refine x_perm [0, 3, 1, 4, 5, 6, 7, 8, 9, 10] rfl ?_
            have eS : pjS ho co tk free i j s = (co i + co j, i, j) := if_pos ⟨(z7c a1).2 c_376, (z7c b1).2 c_386, by rw [← t1, ← t2]; exact Int32.not_lt.mp c_406, Or.inl c_412⟩
            rw [p1, p2]
            refine ih (j + 1) (co i + co j, i, j) _ h111 (by omega) (by omega) f116 f117 f118 a112 f119 sm120 (PSt.upd hP) ?_
            rw [pjJ, eS] at KX
            exact KX
          · refine x_iload dX12_pads_415 0 rfl ?_
            refine x_iload dX12_pads_417 3 rfl ?_
            refine x_icmp_lt (tgt := 425) dX12_pads_419 (by decide) (fun c_419 => ?_) (fun c_419 => ?_)
            · refine x_iload dX12_pads_425 0 rfl ?_
              refine x_istore (lv2 := [(10, .int ((k4 i) + (k4 j))), (14, .int ((k4 i) + (k4 j))), (13, .int (nI j)), (12, .int (nI i)), (11, .int free), (9, .int (nI ax)), (8, .int sum), (7, .int (nI K)), (0, .ref 36), (1, .int th), (2, .int bx)]) dX12_pads_427 (by decide) rfl ?_
              refine x_aload_n dX12_pads_429 8 rfl ?_
              refine x_get (v := .ref 48) dX12_pads_430 fX12_48 f36 (by decide) rfl ?_
              refine x_iconst (v := 2) dX12_pads_433 (by decide) ?_
              refine x_iload dX12_pads_434 5 rfl ?_
              refine x_imulN (a := 2) (b := ax) dX12_pads_436 ?_
              refine x_iload dX12_pads_437 3 rfl ?_
              refine x_iastN (i := (2 * ax)) dX12_pads_439 f48 (by decide) (by omega) (by decide) (fun h121 a122 e123 l124 s125 => ?_)
              have f126 := (e123 36 (by decide)).trans f36
              have f127 := (e123 45 (by decide)).trans f45
              have f128 := (e123 46 (by decide)).trans f46
              have f129 := (e123 49 (by decide)).trans f49
              have sm130 := Sm.put sm e123 l124 s125 (by decide)
              refine x_aload_n dX12_pads_440 8 rfl ?_
              refine x_get (v := .ref 48) dX12_pads_441 fX12_48 f126 (by decide) rfl ?_
              refine x_iconst (v := 2) dX12_pads_444 (by decide) ?_
              refine x_iload dX12_pads_445 5 rfl ?_
              refine x_imulN (a := 2) (b := ax) dX12_pads_447 ?_
              refine x_iconst (v := 1) dX12_pads_448 (by decide) ?_
              refine x_iaddN (a := (2 * ax)) (b := 1) dX12_pads_449 ?_
              refine x_iload dX12_pads_450 2 rfl ?_
              refine x_iastN (i := ((2 * ax) + 1)) dX12_pads_452 a122 (by decide) (by omega) (by decide) (fun h131 a132 e133 l134 s135 => ?_)
              have f136 := (e133 36 (by decide)).trans f126
              have f137 := (e133 45 (by decide)).trans f127
              have f138 := (e133 46 (by decide)).trans f128
              have f139 := (e133 49 (by decide)).trans f129
              have sm140 := Sm.put sm130 e133 l134 s135 (by decide)
              refine x_iincN (lv2 := [(13, .int (nI (j + 1))), (10, .int ((k4 i) + (k4 j))), (14, .int ((k4 i) + (k4 j))), (12, .int (nI i)), (11, .int free), (9, .int (nI ax)), (8, .int sum), (7, .int (nI K)), (0, .ref 36), (1, .int th), (2, .int bx)]) dX12_pads_453 2 rfl (by decide) rfl ?_
              refine x_goto (tgt := 345) dX12_pads_456 (by decide) ?_
              refine x_perm [0, 3, 1, 4, 5, 6, 7, 8, 9, 10] rfl ?_
              have eS : pjS ho co tk free i j s = (co i + co j, i, j) := if_pos ⟨(z7c a1).2 c_376, (z7c b1).2 c_386, by rw [← t1, ← t2]; exact Int32.not_lt.mp c_406, Or.inr (by rw [← p1, ← p2]; exact c_419)⟩
              rw [p1, p2]
              refine ih (j + 1) (co i + co j, i, j) _ h131 (by omega) (by omega) f136 f137 f138 a132 f139 sm140 (PSt.upd hP) ?_
              rw [pjJ, eS] at KX
              exact KX
            · refine x_goto (tgt := 453) dX12_pads_422 (by decide) ?_
              refine x_iincN (lv2 := [(13, .int (nI (j + 1))), (14, .int ((k4 i) + (k4 j))), (12, .int (nI i)), (10, .int s.1), (11, .int free), (9, .int (nI ax)), (8, .int sum), (7, .int (nI K)), (0, .ref 36), (1, .int th), (2, .int bx)]) dX12_pads_453 1 rfl (by decide) rfl ?_
              refine x_goto (tgt := 345) dX12_pads_456 (by decide) ?_
              refine x_perm [0, 2, 3, 4, 5, 6, 7, 8, 9, 10] rfl ?_
              have eS : pjS ho co tk free i j s = s := if_neg (fun q => q.2.2.2.elim c_412 (fun z => c_419 (by rw [p1, p2]; exact z)))
              refine ih (j + 1) s y6 h (by omega) (by omega) f36 f45 f46 f48 f49 sm hP ?_
              rw [pjJ, eS] at KX
              exact KX

set_option maxRecDepth 100000 in
set_option maxHeartbeats 4000000 in
theorem lm_pairI {G : GT} {h0 : List PE} {thr tpd tdy bks siz too frm knd num sgn flt plc tld now lst pfo thk are brk ipd bst : Int32} {wrd : Int64} {K ax : Nat} {k3 k4 k6 k7 : Nat → Int32} {ho : Nat → Bool} {co tk : Nat → Int32} {free sum th bx : Int32} (hK : K ≤ 10) (hax : ax < 3) (e3 : ∀ q, q < K → k3 q = tk q ∧ k4 q = co q ∧ k7 q = if ho q = true then 1 else 0) {Q : OT → Prop} : ∀ (m i : Nat) (s : Int32 × Nat × Nat) (y6 : Nat → Int32) (h : List PE), K - i = m → i ≤ K → h[36]? = some (cO 12 (MO thr tpd tdy bks siz too frm knd num sgn flt plc wrd tld now lst pfo thk are brk ipd bst)) → h[45]? = some (cI 10 k3) → h[46]? = some (cI 10 k4) → h[48]? = some (cI 6 y6) → h[49]? = some (cZ 10 k7) → Sm [48] h0 h → PSt k6 y6 ax s → (∀ (h : List PE) (y6 : Nat → Int32), h[36]? = some (cO 12 (MO thr tpd tdy bks siz too frm knd num sgn flt plc wrd tld now lst pfo thk are brk ipd bst)) → h[45]? = some (cI 10 k3) → h[46]? = some (cI 10 k4) → h[48]? = some (cI 6 y6) → h[49]? = some (cZ 10 k7) → Sm [48] h0 h → PSt k6 y6 ax (pjI ho co tk free K m i s) → X (NF G) G mX12_pads 3 65 465 [(10, .int (pjI ho co tk free K m i s).1), (9, .int (nI ax)), (8, .int sum), (7, .int (nI K)), (0, .ref 36), (1, .int th), (2, .int bx)] [] h Q) → X (NF G) G mX12_pads 3 65 335 [(12, .int (nI i)), (10, .int s.1), (11, .int free), (9, .int (nI ax)), (8, .int sum), (7, .int (nI K)), (0, .ref 36), (1, .int th), (2, .int bx)] [] h Q := by
  intro m
  induction m with
  | zero =>
    intro i s y6 h hm hi f36 f45 f46 f48 f49 sm hP KX
    refine x_iload dX12_pads_335 0 rfl ?_
    refine x_iload dX12_pads_337 5 rfl ?_
    refine x_icmp_geN (tgt := 465) (a := i) (b := K) (by omega) (by omega) dX12_pads_339 (by decide) (fun c_339 => ?_) (fun c_339 => absurd (by omega) c_339)
    refine x_perm [1, 3, 4, 5, 6, 7, 8] rfl ?_
    exact KX h y6 f36 f45 f46 f48 f49 sm hP
  | succ m ih =>
    intro i s y6 h hm hi f36 f45 f46 f48 f49 sm hP KX
    refine x_iload dX12_pads_335 0 rfl ?_
    refine x_iload dX12_pads_337 5 rfl ?_
    refine x_icmp_geN (tgt := 465) (a := i) (b := K) (by omega) (by omega) dX12_pads_339 (by decide) (fun c_339 => absurd c_339 (by omega)) (fun c_339 => ?_)
    refine x_iconst (v := 0) dX12_pads_342 (by decide) ?_
    refine x_istore (lv2 := [(13, .int 0), (12, .int (nI i)), (10, .int s.1), (11, .int free), (9, .int (nI ax)), (8, .int sum), (7, .int (nI K)), (0, .ref 36), (1, .int th), (2, .int bx)]) dX12_pads_343 (by decide) rfl ?_
    refine x_perm [0, 1, 2, 3, 4, 5, 6, 7, 8, 9] rfl ?_
    refine lm_pairJ hK hax e3 (by omega) K 0 s y6 h rfl (by omega) f36 f45 f46 f48 f49 sm hP (fun h1 y1 g36 g45 g46 g48 g49 sm1 hP1 => ?_)
    refine x_iincN (lv2 := [(12, .int (nI (i + 1))), (10, .int (pjJ ho co tk free i K 0 s).1), (11, .int free), (9, .int (nI ax)), (8, .int sum), (7, .int (nI K)), (0, .ref 36), (1, .int th), (2, .int bx)]) dX12_pads_459 0 rfl (by decide) rfl ?_
    refine x_goto (tgt := 335) dX12_pads_462 (by decide) ?_
    refine x_perm [0, 1, 2, 3, 4, 5, 6, 7, 8] rfl ?_
    exact ih (i + 1) _ y1 h1 (by omega) (by omega) g36 g45 g46 g48 g49 sm1 hP1 KX

set_option maxRecDepth 100000 in
set_option maxHeartbeats 4000000 in
theorem lm_kdOk {G : GT} {h : List PE} {s : ST} {t th bx hh : Int32} {b : Nat} {thr tpd tdy bks siz too frm knd num sgn flt plc tld lst pfo thk are brk ipd bst : Int32} {wrd : Int64} {mt bk : Nat → Int32} {Q : OT → Prop} {ar : Int32} (f36 : h[36]? = some (cO 12 (MO thr tpd tdy bks siz too frm knd num sgn flt plc wrd tld ((nI (484 * b))) lst pfo thk are brk ipd bst))) (f37 : h[37]? = some (cI 640 mt)) (f38 : h[38]? = some (cI 10164 bk)) (W : WFk (sR s t) (sC s t)) (RH : 484 * b + 484 ≤ 10164 ∧ ∀ j, j < 484 → bk (484 * b + j) = sR s t j) (r1 : ∀ j, j < s_tn s → mt j = nI (s_tv s j)) (htv : ∀ j, j < s_tn s → s_tv s j < 256) (hev : s_tn s % 2 = 0) (h20 : s_tn s ≤ 20) : ∀ (m q : Nat), s_tn s / 2 - q = m → q ≤ s_tn s / 2 → (kdOk (sC s t).1 (s_tv s) m q = true → X (NF G) G mX12_pads 3 65 141 [(7, .int (nI (s_tn s / 2))), (0, .ref 36), (1, .int th), (2, .int bx), (3, .int ar), (4, .int hh)] [] h Q) → (kdOk (sC s t).1 (s_tv s) m q = false → Q (some (.int (-2)), h)) → X (NF G) G mX12_pads 3 65 88 [(8, .int (nI q)), (7, .int (nI (s_tn s / 2))), (0, .ref 36), (1, .int th), (2, .int bx), (3, .int ar), (4, .int hh)] [] h Q := by
  have w0 : (sR s t) 0 = nI (sC s t).1 := W.1
  have w8 := W.2.1
  intro m
  induction m with
  | zero =>
    intro q hm hq KT KF
    refine x_iload dX12_pads_88 0 rfl ?_
    refine x_iload dX12_pads_90 1 rfl ?_
    refine x_icmp_geN (tgt := 141) (a := q) (b := (s_tn s / 2)) (by omega) (by omega) dX12_pads_92 (by decide) (fun c_92 => ?_) (fun c_92 => absurd (by omega) c_92)
    refine x_perm [1, 2, 3, 4, 5, 6] rfl ?_
    exact KT rfl
  | succ m ih =>
    intro q hm hq KT KF
    have v0 := htv (2 * q) (by omega)
    have v1 := htv (2 * q + 1) (by omega)
    refine x_iload dX12_pads_88 0 rfl ?_
    refine x_iload dX12_pads_90 1 rfl ?_
    refine x_icmp_geN (tgt := 141) (a := q) (b := (s_tn s / 2)) (by omega) (by omega) dX12_pads_92 (by decide) (fun c_92 => absurd c_92 (by omega)) (fun c_92 => ?_)
    refine x_aload_n dX12_pads_95 2 rfl ?_
    refine x_get (v := .ref 37) dX12_pads_96 fX12_7 f36 (by decide) rfl ?_
    refine x_iconst (v := 2) dX12_pads_99 (by decide) ?_
    refine x_iload dX12_pads_100 0 rfl ?_
    refine x_imulN (a := 2) (b := q) dX12_pads_102 ?_
    refine x_ialdN (i := (2 * q)) dX12_pads_103 f37 (by decide) (by omega) (by decide) ?_
    rw [r1 (2 * q) (by omega)]
    refine x_aload_n dX12_pads_104 2 rfl ?_
    refine x_iconst (v := 0) dX12_pads_105 (by decide) ?_
    refine x_callV (rf' := 0) (rl' := 0) [.int 0] [.int (nI (s_tv s (2 * q)))] dX12_pads_106 vX12_217 Y_X12_of f36 (by decide) rfl rfl (Nat.le_of_ble_eq_true rfl) (Nat.le_of_ble_eq_true rfl) (by decide) (by decide) (c_ofR (k := 0) f36 f38 RH (by omega)) (fun _ _ x1 => ?_)
    cases x1
    rw [w0]
    refine x_icmp_geN (tgt := 132) (a := (s_tv s (2 * q))) (b := ((sC s t).1)) (by omega) (by omega) dX12_pads_109 (by decide) (fun c_109 => ?_) (fun c_109 => ?_)
    · refine x_bipush (v := (-2)) dX12_pads_132 (by decide) ?_
      exact x_iret dX12_pads_134 rfl (KF (Bool.eq_false_iff.mpr (kd_no (by omega))))
    · refine x_aload_n dX12_pads_112 2 rfl ?_
      refine x_get (v := .ref 37) dX12_pads_113 fX12_7 f36 (by decide) rfl ?_
      refine x_iconst (v := 2) dX12_pads_116 (by decide) ?_
      refine x_iload dX12_pads_117 0 rfl ?_
      refine x_imulN (a := 2) (b := q) dX12_pads_119 ?_
      refine x_iconst (v := 1) dX12_pads_120 (by decide) ?_
      refine x_iaddN (a := (2 * q)) (b := 1) dX12_pads_121 ?_
      refine x_ialdN (i := ((2 * q) + 1)) dX12_pads_122 f37 (by decide) (by omega) (by decide) ?_
      rw [r1 (2 * q + 1) (by omega)]
      refine x_iconst (v := 1) dX12_pads_123 (by decide) ?_
      refine x_bipush (v := 60) dX12_pads_124 (by decide) ?_
      refine x_callS (rf' := 0) (rl' := 0) [.int (nI (s_tv s (2 * q + 1))), .int 1, .int 60] [] dX12_pads_126 vX12_65 Y_X12_isIn rfl rfl (Nat.le_of_ble_eq_true rfl) (Nat.le_of_ble_eq_true rfl) (by decide) (by decide) c_isIn (fun _ _ x1 => ?_)
      cases x1
      by_cases hb : 1 ≤ s_tv s (2 * q + 1) ∧ s_tv s (2 * q + 1) ≤ 60
      · rw [if_neg (fun q => q.elim (fun q => absurd ((nI_ltI (b := 1) (by omega) (by decide)).mp q) (by omega)) (fun q => absurd ((nI_ltI (a := 60) (by decide) (by omega)).mp q) (by omega)))]
        refine x_if_ne (tgt := 135) dX12_pads_129 (by decide) (fun c_129 => ?_) (fun c_129 => absurd c_129 (by decide))
        refine x_iincN (lv2 := [(8, .int (nI (q + 1))), (7, .int (nI (s_tn s / 2))), (0, .ref 36), (1, .int th), (2, .int bx), (3, .int ar), (4, .int hh)]) dX12_pads_135 0 rfl (by decide) rfl ?_
        refine x_goto (tgt := 88) dX12_pads_138 (by decide) ?_
        refine x_perm [0, 1, 2, 3, 4, 5, 6] rfl ?_
        exact ih (q + 1) (by omega) (by omega) (fun z => KT (by rw [kd_yes (by omega)]; exact z)) (fun z => KF (by rw [kd_yes (by omega)]; exact z))
      · rw [if_pos (show nI (s_tv s (2 * q + 1)) < 1 ∨ (60 : Int32) < nI (s_tv s (2 * q + 1)) from (Classical.em (1 ≤ s_tv s (2 * q + 1))).elim (fun z => Or.inr ((nI_ltI (a := 60) (by decide) (by omega)).mpr (by omega))) (fun z => Or.inl ((nI_ltI (b := 1) (by omega) (by decide)).mpr (by omega))))]
        refine x_if_ne (tgt := 135) dX12_pads_129 (by decide) (fun c_129 => absurd (by decide) c_129) (fun c_129 => ?_)
        refine x_bipush (v := (-2)) dX12_pads_132 (by decide) ?_
        exact x_iret dX12_pads_134 rfl (KF (Bool.eq_false_iff.mpr (kd_no (by omega))))

/-- the model within pads -/
def PdS (h : List PE) (s : ST) (b an : Nat) (ipd : Int32) (mt bk k2 k3 k4 k7 : Nat → Int32) : Prop := ∃ (siz too frm knd num sgn plc : Int32) (wrd : Int64) (tld lst pfo thk : Int32) (cv : Nat → Int32) (sv : Nat → Int64), h[36]? = some (cO 12 (MO 0 0 ((nI (s_td s))) ((nI (s_n s))) siz too frm knd num sgn ((s_fl s)) plc wrd tld ((nI (484 * b))) lst pfo thk ((nI an)) ((s_br s)) ipd ((s_bs s)))) ∧ h[37]? = some (cI 640 mt) ∧ h[38]? = some (cI 10164 bk) ∧ h[41]? = some (cI 96 cv) ∧ h[42]? = some (cJ 96 sv) ∧ h[44]? = some (cI 10 k2) ∧ h[45]? = some (cI 10 k3) ∧ h[46]? = some (cI 10 k4) ∧ h[49]? = some (cZ 10 k7)

theorem ite01 (b : Bool) : (if b = true then (1 : Int32) else 0) = 0 ∨ (if b = true then (1 : Int32) else 0) = 1 := by cases b <;> simp

set_option maxRecDepth 100000 in
set_option maxHeartbeats 4000000 in
theorem lm_kinds {G : GT} {h0 : List PE} {s : ST} {t hh ipd : Int32} {k bx b an : Nat} {mt bk : Nat → Int32} {Q : OT → Prop} (W : WFk (sR s t) (sC s t)) (hk : k < (sC s t).2.1) (ha : an ≤ 2000) (RH : 484 * b + 484 ≤ 10164 ∧ ∀ j, j < 484 → bk (484 * b + j) = sR s t j) (r1 : ∀ j, j < s_tn s → mt j = nI (s_tv s j)) (hkd : kdsOk (sC s t).1 (s_tn s) (s_tv s)) (hw9 : ¬ ((sR s t) (164 + 24 * k)).toInt64 = 0) (KX : ∀ (h : List PE) (k2 k3 k4 k7 : Nat → Int32), Sm [36, 41, 42, 44, 45, 46, 49] h0 h → PdS h s b an ipd mt bk k2 k3 k4 k7 → (∀ j, j < s_tn s / 2 → k3 j = kTk (s_tv s) j ∧ k4 j = kCo (sR s t) (nI an) (s_tv s) j ∧ k7 j = if kHo (sR s t) k (nI an) hh (s_tv s) j = true then 1 else 0) → X (NF G) G mX12_pads 3 65 282 [(7, .int (nI (s_tn s / 2))), (0, .ref 36), (1, .int (nI k)), (2, .int (nI bx))] [] h Q) : ∀ (m q : Nat) (k2 k3 k4 k7 : Nat → Int32) (h : List PE), s_tn s / 2 - q = m → q ≤ s_tn s / 2 → Sm [36, 41, 42, 44, 45, 46, 49] h0 h → PdS h s b an ipd mt bk k2 k3 k4 k7 → (∀ j, j < q → k3 j = kTk (s_tv s) j ∧ k4 j = kCo (sR s t) (nI an) (s_tv s) j ∧ k7 j = if kHo (sR s t) k (nI an) hh (s_tv s) j = true then 1 else 0) → X (NF G) G mX12_pads 3 65 149 [(8, .int (nI q)), (7, .int (nI (s_tn s / 2))), (0, .ref 36), (1, .int (nI k)), (2, .int (nI bx)), (3, .int (nI an)), (4, .int hh)] [] h Q := by
  obtain ⟨u1, u2, u3, u4⟩ := id hkd
  have w4 := W.2.2.2.1
  have w8 := W.2.1
  intro m
  induction m with
  | zero =>
    intro q k2 k3 k4 k7 h hm hq sm hS hI
    obtain ⟨siz, too, frm, knd, num, sgn, plc, wrd, tld, lst, pfo, thk, cv, sv, f36, f37, f38, f41, f42, f44, f45, f46, f49⟩ := id hS
    refine x_iload dX12_pads_149 0 rfl ?_
    refine x_iload dX12_pads_151 1 rfl ?_
    refine x_icmp_geN (tgt := 282) (a := q) (b := (s_tn s / 2)) (by omega) (by omega) dX12_pads_153 (by decide) (fun c_153 => ?_) (fun c_153 => absurd (by omega) c_153)
    refine x_perm [1, 2, 3, 4] rfl ?_
    exact KX h k2 k3 k4 k7 sm hS (fun j hj => hI j (by omega))
  | succ m ih =>
    intro q k2 k3 k4 k7 h hm hq sm hS hI
    obtain ⟨siz, too, frm, knd, num, sgn, plc, wrd, tld, lst, pfo, thk, cv, sv, f36, f37, f38, f41, f42, f44, f45, f46, f49⟩ := id hS
    obtain ⟨v1, v2, v3⟩ := kdOk_at _ _ u4 q (by omega) (by omega)
    obtain ⟨np, P, U, ke, pr, WF⟩ := W.2.2.2.2.2.2.2.2.1 _ v1
    have WF := WF.canon
    have hc9 := cnR_le WF
    refine x_iload dX12_pads_149 0 rfl ?_
    refine x_iload dX12_pads_151 1 rfl ?_
    refine x_icmp_geN (tgt := 282) (a := q) (b := (s_tn s / 2)) (by omega) (by omega) dX12_pads_153 (by decide) (fun c_153 => absurd c_153 (by omega)) (fun c_153 => ?_)
    refine x_aload_n dX12_pads_156 2 rfl ?_
    refine x_get (v := .ref 44) dX12_pads_157 fX12_36 f36 (by decide) rfl ?_
    refine x_iload dX12_pads_160 0 rfl ?_
    refine x_aload_n dX12_pads_162 2 rfl ?_
    refine x_get (v := .ref 37) dX12_pads_163 fX12_7 f36 (by decide) rfl ?_
    refine x_iconst (v := 2) dX12_pads_166 (by decide) ?_
    refine x_iload dX12_pads_167 0 rfl ?_
    refine x_imulN (a := 2) (b := q) dX12_pads_169 ?_
    refine x_ialdN (i := (2 * q)) dX12_pads_170 f37 (by decide) (by omega) (by decide) ?_
    rw [r1 (2 * q) (by omega)]
    refine x_iastN (i := q) dX12_pads_171 f44 (by decide) (by omega) (by decide) (fun h101 a102 e103 l104 s105 => ?_)
    have f106 := (e103 36 (by decide)).trans f36
    have f107 := (e103 37 (by decide)).trans f37
    have f108 := (e103 38 (by decide)).trans f38
    have f109 := (e103 41 (by decide)).trans f41
    have f110 := (e103 42 (by decide)).trans f42
    have f111 := (e103 45 (by decide)).trans f45
    have f112 := (e103 46 (by decide)).trans f46
    have f113 := (e103 49 (by decide)).trans f49
    have sm114 := Sm.put sm e103 l104 s105 (by decide)
    refine x_aload_n dX12_pads_172 2 rfl ?_
    refine x_get (v := .ref 45) dX12_pads_173 fX12_39 f106 (by decide) rfl ?_
    refine x_iload dX12_pads_176 0 rfl ?_
    refine x_bipush (v := 10) dX12_pads_178 (by decide) ?_
    refine x_aload_n dX12_pads_180 2 rfl ?_
    refine x_get (v := .ref 37) dX12_pads_181 fX12_7 f106 (by decide) rfl ?_
    refine x_iconst (v := 2) dX12_pads_184 (by decide) ?_
    refine x_iload dX12_pads_185 0 rfl ?_
    refine x_imulN (a := 2) (b := q) dX12_pads_187 ?_
    refine x_iconst (v := 1) dX12_pads_188 (by decide) ?_
    refine x_iaddN (a := (2 * q)) (b := 1) dX12_pads_189 ?_
    refine x_ialdN (i := ((2 * q) + 1)) dX12_pads_190 f107 (by decide) (by omega) (by decide) ?_
    rw [r1 (2 * q + 1) (by omega)]
    refine x_imulN (a := 10) (b := (s_tv s (2 * q + 1))) dX12_pads_191 ?_
    refine x_iastN (i := q) dX12_pads_192 f111 (by decide) (by omega) (by decide) (fun h115 a116 e117 l118 s119 => ?_)
    have f120 := (e117 36 (by decide)).trans f106
    have f121 := (e117 37 (by decide)).trans f107
    have f122 := (e117 38 (by decide)).trans f108
    have f123 := (e117 41 (by decide)).trans f109
    have f124 := (e117 42 (by decide)).trans f110
    have f125 := (e117 44 (by decide)).trans a102
    have f126 := (e117 46 (by decide)).trans f112
    have f127 := (e117 49 (by decide)).trans f113
    have sm128 := Sm.put sm114 e117 l118 s119 (by decide)
    refine x_aload_n dX12_pads_193 2 rfl ?_
    refine x_aload_n dX12_pads_194 2 rfl ?_
    refine x_get (v := .ref 45) dX12_pads_195 fX12_39 f120 (by decide) rfl ?_
    refine x_iload dX12_pads_198 0 rfl ?_
    refine x_ialdN (i := q) dX12_pads_200 a116 (by decide) (by omega) (by decide) ?_
    rw [pk_us]
    refine x_put (fs2 := (MO 0 0 ((nI (s_td s))) ((nI (s_n s))) siz too frm knd num sgn ((s_fl s)) plc wrd tld ((nI (484 * b))) lst pfo ((nI (10 * s_tv s (2 * q + 1)))) ((nI an)) ((s_br s)) ipd ((s_bs s)))) dX12_pads_201 fX12_242 (Or.inl rfl) f120 (by decide) rfl rfl (Nat.le_of_ble_eq_true rfl) rfl (fun h129 a130 e131 l132 s133 => ?_)
    have f134 := (e131 37 (by decide)).trans f121
    have f135 := (e131 38 (by decide)).trans f122
    have f136 := (e131 41 (by decide)).trans f123
    have f137 := (e131 42 (by decide)).trans f124
    have f138 := (e131 44 (by decide)).trans f125
    have f139 := (e131 45 (by decide)).trans a116
    have f140 := (e131 46 (by decide)).trans f126
    have f141 := (e131 49 (by decide)).trans f127
    have sm142 := Sm.put sm128 e131 l132 s133 (by decide)
    refine x_aload_n dX12_pads_204 2 rfl ?_
    refine x_aload_n dX12_pads_205 2 rfl ?_
    refine x_get (v := .ref 44) dX12_pads_206 fX12_36 a130 (by decide) rfl ?_
    refine x_iload dX12_pads_209 0 rfl ?_
    refine x_ialdN (i := q) dX12_pads_211 f138 (by decide) (by omega) (by decide) ?_
    refine x_bipush (v := 100) dX12_pads_212 (by decide) ?_
    rw [pk_us]
    refine x_callV (rf' := 1) (rl' := 21) [.int (nI (s_tv s (2 * q))), .int 100] [] dX12_pads_214 vX12_226 Y_X12_lay a130 (by decide) rfl rfl (Nat.le_of_ble_eq_true rfl) (Nat.le_of_ble_eq_true rfl) (by decide) (by decide) (c_layM (k := 0) (sd := 0) (kf := s_tv s (2 * q)) a130 f135 f136 f137 RH WF (by omega)) (fun r h9 x1 => ?_)
    obtain ⟨x0, ⟨cv2, sv2, g41, g42, ecv, esv⟩, g36, smL⟩ := x1
    cases x0
    have f143 := smL.at f134 (by decide)
    have f144 := smL.at f135 (by decide)
    have f145 := smL.at f138 (by decide)
    have f146 := smL.at f139 (by decide)
    have f147 := smL.at f140 (by decide)
    have f148 := smL.at f141 (by decide)
    have sm149 := sm142.tr (smL.wide (by decide))
    refine x_aload_n dX12_pads_217 2 rfl ?_
    refine x_get (v := .ref 49) dX12_pads_218 fX12_51 g36 (by decide) rfl ?_
    refine x_iload dX12_pads_221 0 rfl ?_
    refine x_aload_n dX12_pads_223 2 rfl ?_
    refine x_aload_n dX12_pads_224 2 rfl ?_
    refine x_iload_n dX12_pads_225 3 rfl ?_
    refine x_callV (rf' := 1) (rl' := 21) [.int (nI k)] [.ref 36, .int (nI q), .ref 49] dX12_pads_226 vX12_255 Y_X12_weightOf g36 (by decide) rfl rfl (Nat.le_of_ble_eq_true rfl) (Nat.le_of_ble_eq_true rfl) (by decide) (by decide) (c_weightOfR g36 f144 RH (by omega)) (fun _ _ e150 => ?_)
    cases e150
    refine x_iload dX12_pads_229 6 rfl ?_
    refine x_aload_n dX12_pads_231 2 rfl ?_
    refine x_iload_n dX12_pads_232 3 rfl ?_
    refine x_callV (rf' := 1) (rl' := 21) [.int (nI k)] [.int hh, .int ((sR s t) (164 + 24 * k)), .ref 36, .int (nI q), .ref 49] dX12_pads_233 vX12_270 Y_X12_markOf g36 (by decide) rfl rfl (Nat.le_of_ble_eq_true rfl) (Nat.le_of_ble_eq_true rfl) (by decide) (by decide) (c_markOfR g36 f144 RH (by omega)) (fun _ _ e151 => ?_)
    cases e151
    refine x_callV (rf' := 1) (rl' := 29) [.int ((sR s t) (164 + 24 * k)), .int hh, .int ((sR s t) (164 + 24 * k + 4))] [.int (nI q), .ref 49] dX12_pads_236 vX12_273 Y_X12_holds g36 (by decide) rfl rfl (Nat.le_of_ble_eq_true rfl) (Nat.le_of_ble_eq_true rfl) (by decide) (by decide) (c_holds g36 g41 g42 WF.2.2.2.2.2.2.1 hw9) (fun _ _ x1 => ?_)
    cases x1
    rw [hoF_cong (c := cnR (sR s t) (kFo (s_tv s) q)) (Nat.lt_of_le_of_lt hc9 (by decide)) esv ecv]
    rw [show hoF (stR (sR s t) (kFo (s_tv s) q) 100) (cuR (sR s t) (kFo (s_tv s) q) 100) (cnR (sR s t) (kFo (s_tv s) q)) (nI (10 * s_tv s (2 * q + 1))).toInt64 (nI an).toInt64 ((sR s t) (164 + 24 * k)) hh ((sR s t) (164 + 24 * k + 4)) = kHo (sR s t) k (nI an) hh (s_tv s) q from rfl]
    refine x_zastN (i := q) dX12_pads_239 f148 (by decide) (by omega) (by decide) (ite01 _) (fun h152 a153 e154 l155 s156 => ?_)
    have f157 := (e154 36 (by decide)).trans g36
    have f158 := (e154 37 (by decide)).trans f143
    have f159 := (e154 38 (by decide)).trans f144
    have f160 := (e154 41 (by decide)).trans g41
    have f161 := (e154 42 (by decide)).trans g42
    have f162 := (e154 44 (by decide)).trans f145
    have f163 := (e154 45 (by decide)).trans f146
    have f164 := (e154 46 (by decide)).trans f147
    have sm165 := Sm.put sm149 e154 l155 s156 (by decide)
    refine x_aload_n dX12_pads_240 2 rfl ?_
    refine x_get (v := .ref 46) dX12_pads_241 fX12_42 f157 (by decide) rfl ?_
    refine x_iload dX12_pads_244 0 rfl ?_
    refine x_aload_n dX12_pads_246 2 rfl ?_
    refine x_iconst (v := 4) dX12_pads_247 (by decide) ?_
    refine x_bipush (v := 20) dX12_pads_248 (by decide) ?_
    refine x_aload_n dX12_pads_250 2 rfl ?_
    refine x_get (v := .ref 44) dX12_pads_251 fX12_36 f157 (by decide) rfl ?_
    refine x_iload dX12_pads_254 0 rfl ?_
    refine x_ialdN (i := q) dX12_pads_256 f162 (by decide) (by omega) (by decide) ?_
    rw [pk_us]
    refine x_imulN (a := 20) (b := (s_tv s (2 * q))) dX12_pads_257 ?_
    refine x_iaddN (a := 4) (b := (20 * (s_tv s (2 * q)))) dX12_pads_258 ?_
    refine x_iconst (v := 2) dX12_pads_259 (by decide) ?_
    refine x_iaddN (a := (4 + (20 * (s_tv s (2 * q))))) (b := 2) dX12_pads_260 ?_
    refine x_callV (rf' := 0) (rl' := 0) [.int (nI ((4 + (20 * (s_tv s (2 * q)))) + 2))] [.int (nI q), .ref 46] dX12_pads_261 vX12_217 Y_X12_of f157 (by decide) rfl rfl (Nat.le_of_ble_eq_true rfl) (Nat.le_of_ble_eq_true rfl) (by decide) (by decide) (c_ofR (k := 4 + 20 * s_tv s (2 * q) + 2) f157 f159 RH (by omega)) (fun _ _ x1 => ?_)
    cases x1
    refine x_iload_n dX12_pads_264 5 rfl ?_
    refine x_imul dX12_pads_265 ?_
    refine x_aload_n dX12_pads_266 2 rfl ?_
    refine x_get (v := .int (nI (10 * s_tv s (2 * q + 1)))) dX12_pads_267 fX12_242 f157 (by decide) rfl ?_
    refine x_imul dX12_pads_270 ?_
    refine x_sipush (v := 1000) dX12_pads_271 (by decide) ?_
    refine x_idiv dX12_pads_274 (by decide) ?_
    refine x_iastN (i := q) dX12_pads_275 f164 (by decide) (by omega) (by decide) (fun h166 a167 e168 l169 s170 => ?_)
    have f171 := (e168 36 (by decide)).trans f157
    have f172 := (e168 37 (by decide)).trans f158
    have f173 := (e168 38 (by decide)).trans f159
    have f174 := (e168 41 (by decide)).trans f160
    have f175 := (e168 42 (by decide)).trans f161
    have f176 := (e168 44 (by decide)).trans f162
    have f177 := (e168 45 (by decide)).trans f163
    have f178 := (e168 49 (by decide)).trans a153
    have sm179 := Sm.put sm165 e168 l169 s170 (by decide)
    refine x_iincN (lv2 := [(8, .int (nI (q + 1))), (7, .int (nI (s_tn s / 2))), (0, .ref 36), (1, .int (nI k)), (2, .int (nI bx)), (3, .int (nI an)), (4, .int hh)]) dX12_pads_276 0 rfl (by decide) rfl ?_
    refine x_goto (tgt := 149) dX12_pads_279 (by decide) ?_
    refine x_perm [0, 1, 2, 3, 4, 5, 6] rfl ?_
    refine ih (q + 1) _ _ _ _ h166 (by omega) (by omega) sm179 ⟨_, _, _, _, _, _, _, _, _, _, _, _, _, _, f171, f172, f173, f174, f175, f176, f177, a167, f178⟩ (fun j hj => ?_)
    by_cases ej : j = q
    · subst ej; rw [pk_us, pk_us, pk_us]; exact ⟨rfl, rfl, rfl⟩
    · rw [pk_un ej, pk_un ej, pk_un ej]; exact hI j (by omega)

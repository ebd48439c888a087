set_option maxRecDepth 100000 in
set_option maxHeartbeats 4000000 in
theorem l_cheap {G : GT} {h : List PE} {nt nb s : Nat} {bs : Int32} {z2 pr : Nat → Int32} (hb : nb ≤ 8) (hs : s < 256) (e2 : ∀ j, j < nb → z2 j = pr j) (f32 : h[32]? = some (cO 3 [.ref 33, .ref 34, .int (nI nt), .int (nI nb), .int bs])) (f34 : h[34]? = some (cI 8 z2)) : ∀ (m j : Nat) (b : Int32), nb - j = m → j ≤ nb → X (NF G) G mX3_cheapestOf 0 0 4 [(3, .int (nI j)), (2, .int b), (0, .ref 32), (1, .int (nI s))] [] h (fun o => o = (some (.int (chF (fun j => Nat.testBit s j) pr m j b)), h)) := by
  intro m
  induction m with
  | zero =>
    intro j b hm hj
    refine x_iload_n dX3_cheapestOf_4 0 rfl ?_
    refine x_aload_n dX3_cheapestOf_5 2 rfl ?_
    refine x_get (v := .int (nI nb)) dX3_cheapestOf_6 fX3_24 f32 (by decide) rfl ?_
    refine x_icmp_geN (tgt := 49) (a := j) (b := nb) (by omega) (by omega) dX3_cheapestOf_9 (by decide) (fun c_9 => ?_) (fun c_9 => absurd (by omega) c_9)
    refine x_iload_n dX3_cheapestOf_49 1 rfl ?_
    exact x_iret dX3_cheapestOf_50 rfl rfl
  | succ m ih =>
    intro j b hm hj
    have bt := bit_at s hs j (by omega)
    have e3 := e2 j (by omega)
    refine x_iload_n dX3_cheapestOf_4 0 rfl ?_
    refine x_aload_n dX3_cheapestOf_5 2 rfl ?_
    refine x_get (v := .int (nI nb)) dX3_cheapestOf_6 fX3_24 f32 (by decide) rfl ?_
    refine x_icmp_geN (tgt := 49) (a := j) (b := nb) (by omega) (by omega) dX3_cheapestOf_9 (by decide) (fun c_9 => absurd c_9 (by omega)) (fun c_9 => ?_)
    refine x_iload_n dX3_cheapestOf_12 3 rfl ?_
    refine x_iload_n dX3_cheapestOf_13 0 rfl ?_
    refine x_ishr dX3_cheapestOf_14 ?_
    refine x_iconst (v := 1) dX3_cheapestOf_15 (by decide) ?_
    refine x_iand dX3_cheapestOf_16 ?_
    refine x_iconst (v := 1) dX3_cheapestOf_17 (by decide) ?_
    refine x_icmp_ne (tgt := 43) dX3_cheapestOf_18 (by decide) (fun c_18 => ?_) (fun c_18 => ?_)
    · refine x_iincN (lv2 := [(3, .int (nI (j + 1))), (2, .int b), (0, .ref 32), (1, .int (nI s))]) dX3_cheapestOf_43 0 rfl (by decide) rfl ?_
      refine x_goto (tgt := 4) dX3_cheapestOf_46 (by decide) ?_
      refine x_perm [0, 1, 2, 3] rfl ?_
      exact (ih (j + 1) b (by omega) (by omega)).weaken (fun o ho => by rw [ho, chF]; congr 5; exact (if_neg (fun q => c_18 (bt.mpr q.1))).symm)
    · refine x_iload_n dX3_cheapestOf_21 1 rfl ?_
      refine x_iconst (v := (-1)) dX3_cheapestOf_22 (by decide) ?_
      refine x_icmp_eq (tgt := 36) dX3_cheapestOf_23 (by decide) (fun c_23 => ?_) (fun c_23 => ?_)
      · refine x_aload_n dX3_cheapestOf_36 2 rfl ?_
        refine x_get (v := .ref 34) dX3_cheapestOf_37 fX3_17 f32 (by decide) rfl ?_
        refine x_iload_n dX3_cheapestOf_40 0 rfl ?_
        refine x_ialdN (i := j) dX3_cheapestOf_41 f34 (by decide) (by omega) (by decide) ?_
        refine x_istore_n (lv2 := [(2, .int (z2 j)), (3, .int (nI j)), (0, .ref 32), (1, .int (nI s))]) dX3_cheapestOf_42 (by decide) rfl ?_
        refine x_iincN (lv2 := [(3, .int (nI (j + 1))), (2, .int (z2 j)), (0, .ref 32), (1, .int (nI s))]) dX3_cheapestOf_43 1 rfl (by decide) rfl ?_
        refine x_goto (tgt := 4) dX3_cheapestOf_46 (by decide) ?_
        refine x_perm [0, 1, 2, 3] rfl ?_
        rw [e3]
        exact (ih (j + 1) (pr j) (by omega) (by omega)).weaken (fun o ho => by rw [ho, chF]; congr 5; exact (if_pos ⟨bt.mp c_18, Or.inl c_23⟩).symm)
      · refine x_aload_n dX3_cheapestOf_26 2 rfl ?_
        refine x_get (v := .ref 34) dX3_cheapestOf_27 fX3_17 f32 (by decide) rfl ?_
        refine x_iload_n dX3_cheapestOf_30 0 rfl ?_
        refine x_ialdN (i := j) dX3_cheapestOf_31 f34 (by decide) (by omega) (by decide) ?_
        refine x_iload_n dX3_cheapestOf_32 1 rfl ?_
        refine x_icmp_ge (tgt := 43) dX3_cheapestOf_33 (by decide) (fun c_33 => ?_) (fun c_33 => ?_)
        · refine x_iincN (lv2 := [(3, .int (nI (j + 1))), (2, .int b), (0, .ref 32), (1, .int (nI s))]) dX3_cheapestOf_43 0 rfl (by decide) rfl ?_
          refine x_goto (tgt := 4) dX3_cheapestOf_46 (by decide) ?_
          refine x_perm [0, 1, 2, 3] rfl ?_
          exact (ih (j + 1) b (by omega) (by omega)).weaken (fun o ho => by rw [ho, chF]; congr 5; exact (if_neg (fun q => q.2.elim c_23 (fun z => absurd c_33 (by rw [e3]; exact Int32.not_le.mpr z)))).symm)
        · refine x_aload_n dX3_cheapestOf_36 2 rfl ?_
          refine x_get (v := .ref 34) dX3_cheapestOf_37 fX3_17 f32 (by decide) rfl ?_
          refine x_iload_n dX3_cheapestOf_40 0 rfl ?_
          refine x_ialdN (i := j) dX3_cheapestOf_41 f34 (by decide) (by omega) (by decide) ?_
          refine x_istore_n (lv2 := [(2, .int (z2 j)), (3, .int (nI j)), (0, .ref 32), (1, .int (nI s))]) dX3_cheapestOf_42 (by decide) rfl ?_
          refine x_iincN (lv2 := [(3, .int (nI (j + 1))), (2, .int (z2 j)), (0, .ref 32), (1, .int (nI s))]) dX3_cheapestOf_43 1 rfl (by decide) rfl ?_
          refine x_goto (tgt := 4) dX3_cheapestOf_46 (by decide) ?_
          refine x_perm [0, 1, 2, 3] rfl ?_
          rw [e3]
          exact (ih (j + 1) (pr j) (by omega) (by omega)).weaken (fun o ho => by rw [ho, chF]; congr 5; exact (if_pos ⟨bt.mp c_18, Or.inr (by rw [← e3]; exact Int32.not_le.mp c_33)⟩).symm)

set_option maxRecDepth 100000 in
set_option maxHeartbeats 4000000 in
theorem c_cheapestOf {G : GT} {h : List PE} {nt nb s : Nat} {bs : Int32} {z2 pr : Nat → Int32} (hb : nb ≤ 8) (hs : s < 256) (e2 : ∀ j, j < nb → z2 j = pr j) (f32 : h[32]? = some (cO 3 [.ref 33, .ref 34, .int (nI nt), .int (nI nb), .int bs])) (f34 : h[34]? = some (cI 8 z2)) : CT G mX3_cheapestOf 0 0 [.ref 32, .int (nI s)] h (fun o => o = (some (.int (chF (fun j => Nat.testBit s j) pr nb 0 (-1))), h)) := by
  show X (NF G) G mX3_cheapestOf 0 0 0 [(0, .ref 32), (1, .int (nI s))] [] h _
  refine x_iconst (v := (-1)) dX3_cheapestOf_0 (by decide) ?_
  refine x_istore_n (lv2 := [(2, .int (-1)), (0, .ref 32), (1, .int (nI s))]) dX3_cheapestOf_1 (by decide) rfl ?_
  refine x_iconst (v := 0) dX3_cheapestOf_2 (by decide) ?_
  refine x_istore_n (lv2 := [(3, .int 0), (2, .int (-1)), (0, .ref 32), (1, .int (nI s))]) dX3_cheapestOf_3 (by decide) rfl ?_
  refine x_perm (lv2 := [(3, .int (nI 0)), (2, .int (-1)), (0, .ref 32), (1, .int (nI s))]) [0, 1, 2, 3] rfl ?_
  exact l_cheap hb hs e2 f32 f34 nb 0 (-1) rfl (by omega)

theorem and_lt {a b : Nat} (h : b < 256) : a &&& b < 256 := Nat.lt_of_le_of_lt Nat.and_le_right h
theorem bxC_of {rec : Nat → Int32} {mg : Int32} {nb q i : Nat} : chF (fun j => Nat.testBit (fmN (fun j => GI rec mg i j) nb &&& q) j) (fun j => rec (356 + 6 * j + 3)) nb 0 (-1) = bxC rec mg nb q i := by
  refine chF_cong _ _ _ (fun j _ h2 => ⟨?_, rfl⟩)
  rw [Nat.testBit_and, fmN_bit _ _ (by omega), Bool.and_comm]

set_option maxRecDepth 100000 in
set_option maxHeartbeats 4000000 in
theorem l_cost {G : GT} {h : List PE} {nt nb q : Nat} {mg bs : Int32} {z1 z2 rec : Nat → Int32} (ht : nt ≤ 8) (hb : nb ≤ 8) (hq : q < 256) (e1 : ∀ i, i < nt → z1 i = nI (fmN (fun j => GI rec mg i j) nb)) (e2 : ∀ j, j < nb → z2 j = rec (356 + 6 * j + 3)) (f32 : h[32]? = some (cO 3 [.ref 33, .ref 34, .int (nI nt), .int (nI nb), .int bs])) (f33 : h[33]? = some (cI 8 z1)) (f34 : h[34]? = some (cI 8 z2)) : ∀ (m i : Nat) (b : Int32), nt - i = m → i ≤ nt → X (NF G) G mX3_costOf 1 23 4 [(3, .int (nI i)), (2, .int b), (0, .ref 32), (1, .int (nI q))] [] h (fun o => o = (some (.int (coF (bxC rec mg nb q) m i b)), h)) := by
  intro m
  induction m with
  | zero =>
    intro i b hm hj
    refine x_iload_n dX3_costOf_4 0 rfl ?_
    refine x_aload_n dX3_costOf_5 2 rfl ?_
    refine x_get (v := .int (nI nt)) dX3_costOf_6 fX3_20 f32 (by decide) rfl ?_
    refine x_icmp_geN (tgt := 45) (a := i) (b := nt) (by omega) (by omega) dX3_costOf_9 (by decide) (fun c_9 => ?_) (fun c_9 => absurd (by omega) c_9)
    refine x_iload_n dX3_costOf_45 1 rfl ?_
    exact x_iret dX3_costOf_46 rfl rfl
  | succ m ih =>
    intro i b hm hj
    refine x_iload_n dX3_costOf_4 0 rfl ?_
    refine x_aload_n dX3_costOf_5 2 rfl ?_
    refine x_get (v := .int (nI nt)) dX3_costOf_6 fX3_20 f32 (by decide) rfl ?_
    refine x_icmp_geN (tgt := 45) (a := i) (b := nt) (by omega) (by omega) dX3_costOf_9 (by decide) (fun c_9 => absurd c_9 (by omega)) (fun c_9 => ?_)
    refine x_aload_n dX3_costOf_12 2 rfl ?_
    refine x_aload_n dX3_costOf_13 2 rfl ?_
    refine x_get (v := .ref 33) dX3_costOf_14 fX3_11 f32 (by decide) rfl ?_
    refine x_iload_n dX3_costOf_17 0 rfl ?_
    refine x_ialdN (i := i) dX3_costOf_18 f33 (by decide) (by omega) (by decide) ?_
    refine x_iload_n dX3_costOf_19 3 rfl ?_
    refine x_iand dX3_costOf_20 ?_
    rw [e1 i (by omega), nI_and2]
    refine x_callV (rf' := 0) (rl' := 0) [.int (nI (fmN (fun j => GI rec mg i j) nb &&& q))] [] dX3_costOf_21 vX3_66 Y_X3_cheapestOf f32 (by decide) rfl rfl (Nat.le_of_ble_eq_true rfl) (Nat.le_of_ble_eq_true rfl) (by decide) (by decide) (c_cheapestOf (pr := fun j => rec (356 + 6 * j + 3)) hb (and_lt hq) e2 f32 f34) (fun _ _ e9 => ?_)
    cases e9
    rw [bxC_of]
    refine x_istore (lv2 := [(4, .int (bxC rec mg nb q i)), (3, .int (nI i)), (2, .int b), (0, .ref 32), (1, .int (nI q))]) dX3_costOf_24 (by decide) rfl ?_
    refine x_iload dX3_costOf_26 0 rfl ?_
    refine x_iconst (v := (-1)) dX3_costOf_28 (by decide) ?_
    refine x_icmp_ne (tgt := 34) dX3_costOf_29 (by decide) (fun c_29 => ?_) (fun c_29 => ?_)
    · refine x_iload_n dX3_costOf_34 2 rfl ?_
      refine x_iload dX3_costOf_35 0 rfl ?_
      refine x_iadd dX3_costOf_37 ?_
      refine x_istore_n (lv2 := [(2, .int (b + (bxC rec mg nb q i))), (4, .int (bxC rec mg nb q i)), (3, .int (nI i)), (0, .ref 32), (1, .int (nI q))]) dX3_costOf_38 (by decide) rfl ?_
      refine x_iincN (lv2 := [(3, .int (nI (i + 1))), (2, .int (b + (bxC rec mg nb q i))), (4, .int (bxC rec mg nb q i)), (0, .ref 32), (1, .int (nI q))]) dX3_costOf_39 2 rfl (by decide) rfl ?_
      refine x_goto (tgt := 4) dX3_costOf_42 (by decide) ?_
      refine x_perm [0, 1, 3, 4] rfl ?_
      exact (ih (i + 1) _ (by omega) (by omega)).weaken (fun o ho => by rw [ho, coF, if_neg c_29])
    · refine x_iconst (v := (-1)) dX3_costOf_32 (by decide) ?_
      exact x_iret dX3_costOf_33 rfl (by rw [coF, if_pos c_29])

set_option maxRecDepth 100000 in
set_option maxHeartbeats 4000000 in
theorem c_costOfC {G : GT} {h : List PE} {nt nb q : Nat} {mg bs : Int32} {z1 z2 rec : Nat → Int32} (ht : nt ≤ 8) (hb : nb ≤ 8) (hq : q < 256) (e1 : ∀ i, i < nt → z1 i = nI (fmN (fun j => GI rec mg i j) nb)) (e2 : ∀ j, j < nb → z2 j = rec (356 + 6 * j + 3)) (f32 : h[32]? = some (cO 3 [.ref 33, .ref 34, .int (nI nt), .int (nI nb), .int bs])) (f33 : h[33]? = some (cI 8 z1)) (f34 : h[34]? = some (cI 8 z2)) : CT G mX3_costOf 1 23 [.ref 32, .int (nI q)] h (fun o => o = (some (.int (bxS rec mg nt nb q)), h)) := by
  show X (NF G) G mX3_costOf 1 23 0 [(0, .ref 32), (1, .int (nI q))] [] h _
  refine x_iconst (v := 0) dX3_costOf_0 (by decide) ?_
  refine x_istore_n (lv2 := [(2, .int 0), (0, .ref 32), (1, .int (nI q))]) dX3_costOf_1 (by decide) rfl ?_
  refine x_iconst (v := 0) dX3_costOf_2 (by decide) ?_
  refine x_istore_n (lv2 := [(3, .int 0), (2, .int 0), (0, .ref 32), (1, .int (nI q))]) dX3_costOf_3 (by decide) rfl ?_
  refine x_perm (lv2 := [(3, .int (nI 0)), (2, .int 0), (0, .ref 32), (1, .int (nI q))]) [0, 1, 2, 3] rfl ?_
  exact l_cost ht hb hq e1 e2 f32 f33 f34 nt 0 0 rfl (by omega)

set_option maxRecDepth 100000 in
theorem pop_of9 : ∀ nb, nb ≤ 8 → ∀ q, q < 2 ^ nb → (((((((((nI q) - ((Int32.toUInt32 ((nI q)) >>> (Int32.toUInt32 1 &&& Int32.toUInt32 31)).toInt32 &&& 1431655765)) &&& 858993459) + ((Int32.toUInt32 (((nI q) - ((Int32.toUInt32 ((nI q)) >>> (Int32.toUInt32 1 &&& Int32.toUInt32 31)).toInt32 &&& 1431655765))) >>> (Int32.toUInt32 2 &&& Int32.toUInt32 31)).toInt32 &&& 858993459)) + (Int32.toUInt32 (((((nI q) - ((Int32.toUInt32 ((nI q)) >>> (Int32.toUInt32 1 &&& Int32.toUInt32 31)).toInt32 &&& 1431655765)) &&& 858993459) + ((Int32.toUInt32 (((nI q) - ((Int32.toUInt32 ((nI q)) >>> (Int32.toUInt32 1 &&& Int32.toUInt32 31)).toInt32 &&& 1431655765))) >>> (Int32.toUInt32 2 &&& Int32.toUInt32 31)).toInt32 &&& 858993459))) >>> (Int32.toUInt32 4 &&& Int32.toUInt32 31)).toInt32) &&& 252645135) + (Int32.toUInt32 (((((((nI q) - ((Int32.toUInt32 ((nI q)) >>> (Int32.toUInt32 1 &&& Int32.toUInt32 31)).toInt32 &&& 1431655765)) &&& 858993459) + ((Int32.toUInt32 (((nI q) - ((Int32.toUInt32 ((nI q)) >>> (Int32.toUInt32 1 &&& Int32.toUInt32 31)).toInt32 &&& 1431655765))) >>> (Int32.toUInt32 2 &&& Int32.toUInt32 31)).toInt32 &&& 858993459)) + (Int32.toUInt32 (((((nI q) - ((Int32.toUInt32 ((nI q)) >>> (Int32.toUInt32 1 &&& Int32.toUInt32 31)).toInt32 &&& 1431655765)) &&& 858993459) + ((Int32.toUInt32 (((nI q) - ((Int32.toUInt32 ((nI q)) >>> (Int32.toUInt32 1 &&& Int32.toUInt32 31)).toInt32 &&& 1431655765))) >>> (Int32.toUInt32 2 &&& Int32.toUInt32 31)).toInt32 &&& 858993459))) >>> (Int32.toUInt32 4 &&& Int32.toUInt32 31)).toInt32) &&& 252645135)) >>> (Int32.toUInt32 8 &&& Int32.toUInt32 31)).toInt32) + (Int32.toUInt32 ((((((((nI q) - ((Int32.toUInt32 ((nI q)) >>> (Int32.toUInt32 1 &&& Int32.toUInt32 31)).toInt32 &&& 1431655765)) &&& 858993459) + ((Int32.toUInt32 (((nI q) - ((Int32.toUInt32 ((nI q)) >>> (Int32.toUInt32 1 &&& Int32.toUInt32 31)).toInt32 &&& 1431655765))) >>> (Int32.toUInt32 2 &&& Int32.toUInt32 31)).toInt32 &&& 858993459)) + (Int32.toUInt32 (((((nI q) - ((Int32.toUInt32 ((nI q)) >>> (Int32.toUInt32 1 &&& Int32.toUInt32 31)).toInt32 &&& 1431655765)) &&& 858993459) + ((Int32.toUInt32 (((nI q) - ((Int32.toUInt32 ((nI q)) >>> (Int32.toUInt32 1 &&& Int32.toUInt32 31)).toInt32 &&& 1431655765))) >>> (Int32.toUInt32 2 &&& Int32.toUInt32 31)).toInt32 &&& 858993459))) >>> (Int32.toUInt32 4 &&& Int32.toUInt32 31)).toInt32) &&& 252645135) + (Int32.toUInt32 (((((((nI q) - ((Int32.toUInt32 ((nI q)) >>> (Int32.toUInt32 1 &&& Int32.toUInt32 31)).toInt32 &&& 1431655765)) &&& 858993459) + ((Int32.toUInt32 (((nI q) - ((Int32.toUInt32 ((nI q)) >>> (Int32.toUInt32 1 &&& Int32.toUInt32 31)).toInt32 &&& 1431655765))) >>> (Int32.toUInt32 2 &&& Int32.toUInt32 31)).toInt32 &&& 858993459)) + (Int32.toUInt32 (((((nI q) - ((Int32.toUInt32 ((nI q)) >>> (Int32.toUInt32 1 &&& Int32.toUInt32 31)).toInt32 &&& 1431655765)) &&& 858993459) + ((Int32.toUInt32 (((nI q) - ((Int32.toUInt32 ((nI q)) >>> (Int32.toUInt32 1 &&& Int32.toUInt32 31)).toInt32 &&& 1431655765))) >>> (Int32.toUInt32 2 &&& Int32.toUInt32 31)).toInt32 &&& 858993459))) >>> (Int32.toUInt32 4 &&& Int32.toUInt32 31)).toInt32) &&& 252645135)) >>> (Int32.toUInt32 8 &&& Int32.toUInt32 31)).toInt32)) >>> (Int32.toUInt32 16 &&& Int32.toUInt32 31)).toInt32) &&& 63) = nI (popN nb q) := by decide
theorem pop_of (nb : Nat) (hb : nb ≤ 8) (q : Nat) (hq : q < 2 ^ nb) : (((((((((nI q) - ((Int32.toUInt32 ((nI q)) >>> (Int32.toUInt32 1 &&& Int32.toUInt32 31)).toInt32 &&& 1431655765)) &&& 858993459) + ((Int32.toUInt32 (((nI q) - ((Int32.toUInt32 ((nI q)) >>> (Int32.toUInt32 1 &&& Int32.toUInt32 31)).toInt32 &&& 1431655765))) >>> (Int32.toUInt32 2 &&& Int32.toUInt32 31)).toInt32 &&& 858993459)) + (Int32.toUInt32 (((((nI q) - ((Int32.toUInt32 ((nI q)) >>> (Int32.toUInt32 1 &&& Int32.toUInt32 31)).toInt32 &&& 1431655765)) &&& 858993459) + ((Int32.toUInt32 (((nI q) - ((Int32.toUInt32 ((nI q)) >>> (Int32.toUInt32 1 &&& Int32.toUInt32 31)).toInt32 &&& 1431655765))) >>> (Int32.toUInt32 2 &&& Int32.toUInt32 31)).toInt32 &&& 858993459))) >>> (Int32.toUInt32 4 &&& Int32.toUInt32 31)).toInt32) &&& 252645135) + (Int32.toUInt32 (((((((nI q) - ((Int32.toUInt32 ((nI q)) >>> (Int32.toUInt32 1 &&& Int32.toUInt32 31)).toInt32 &&& 1431655765)) &&& 858993459) + ((Int32.toUInt32 (((nI q) - ((Int32.toUInt32 ((nI q)) >>> (Int32.toUInt32 1 &&& Int32.toUInt32 31)).toInt32 &&& 1431655765))) >>> (Int32.toUInt32 2 &&& Int32.toUInt32 31)).toInt32 &&& 858993459)) + (Int32.toUInt32 (((((nI q) - ((Int32.toUInt32 ((nI q)) >>> (Int32.toUInt32 1 &&& Int32.toUInt32 31)).toInt32 &&& 1431655765)) &&& 858993459) + ((Int32.toUInt32 (((nI q) - ((Int32.toUInt32 ((nI q)) >>> (Int32.toUInt32 1 &&& Int32.toUInt32 31)).toInt32 &&& 1431655765))) >>> (Int32.toUInt32 2 &&& Int32.toUInt32 31)).toInt32 &&& 858993459))) >>> (Int32.toUInt32 4 &&& Int32.toUInt32 31)).toInt32) &&& 252645135)) >>> (Int32.toUInt32 8 &&& Int32.toUInt32 31)).toInt32) + (Int32.toUInt32 ((((((((nI q) - ((Int32.toUInt32 ((nI q)) >>> (Int32.toUInt32 1 &&& Int32.toUInt32 31)).toInt32 &&& 1431655765)) &&& 858993459) + ((Int32.toUInt32 (((nI q) - ((Int32.toUInt32 ((nI q)) >>> (Int32.toUInt32 1 &&& Int32.toUInt32 31)).toInt32 &&& 1431655765))) >>> (Int32.toUInt32 2 &&& Int32.toUInt32 31)).toInt32 &&& 858993459)) + (Int32.toUInt32 (((((nI q) - ((Int32.toUInt32 ((nI q)) >>> (Int32.toUInt32 1 &&& Int32.toUInt32 31)).toInt32 &&& 1431655765)) &&& 858993459) + ((Int32.toUInt32 (((nI q) - ((Int32.toUInt32 ((nI q)) >>> (Int32.toUInt32 1 &&& Int32.toUInt32 31)).toInt32 &&& 1431655765))) >>> (Int32.toUInt32 2 &&& Int32.toUInt32 31)).toInt32 &&& 858993459))) >>> (Int32.toUInt32 4 &&& Int32.toUInt32 31)).toInt32) &&& 252645135) + (Int32.toUInt32 (((((((nI q) - ((Int32.toUInt32 ((nI q)) >>> (Int32.toUInt32 1 &&& Int32.toUInt32 31)).toInt32 &&& 1431655765)) &&& 858993459) + ((Int32.toUInt32 (((nI q) - ((Int32.toUInt32 ((nI q)) >>> (Int32.toUInt32 1 &&& Int32.toUInt32 31)).toInt32 &&& 1431655765))) >>> (Int32.toUInt32 2 &&& Int32.toUInt32 31)).toInt32 &&& 858993459)) + (Int32.toUInt32 (((((nI q) - ((Int32.toUInt32 ((nI q)) >>> (Int32.toUInt32 1 &&& Int32.toUInt32 31)).toInt32 &&& 1431655765)) &&& 858993459) + ((Int32.toUInt32 (((nI q) - ((Int32.toUInt32 ((nI q)) >>> (Int32.toUInt32 1 &&& Int32.toUInt32 31)).toInt32 &&& 1431655765))) >>> (Int32.toUInt32 2 &&& Int32.toUInt32 31)).toInt32 &&& 858993459))) >>> (Int32.toUInt32 4 &&& Int32.toUInt32 31)).toInt32) &&& 252645135)) >>> (Int32.toUInt32 8 &&& Int32.toUInt32 31)).toInt32)) >>> (Int32.toUInt32 16 &&& Int32.toUInt32 31)).toInt32) &&& 63) = nI (popN nb q) := pop_of9 nb hb q hq

set_option maxRecDepth 100000 in
set_option maxHeartbeats 4000000 in
theorem c_bitCount {G : GT} {h : List PE} {nb q : Nat} (hb : nb ≤ 8) (hq : q < 2 ^ nb) : CT G mJ6_bitCount_0f7a4 0 0 [.int (nI q)] h (fun o => o = (some (.int (nI (popN nb q))), h)) := by
  show X (NF G) G mJ6_bitCount_0f7a4 0 0 0 [(0, .int (nI q))] [] h _
  refine x_iload_n dJ6_bitCount_0f7a4_0 0 rfl ?_
  refine x_iload_n dJ6_bitCount_0f7a4_1 0 rfl ?_
  refine x_iconst (v := 1) dJ6_bitCount_0f7a4_2 (by decide) ?_
  refine x_iushr dJ6_bitCount_0f7a4_3 ?_
  refine x_ldcw (v := 1431655765) dJ6_bitCount_0f7a4_4 kJ6_265 ?_
  refine x_iand dJ6_bitCount_0f7a4_7 ?_
  refine x_isub dJ6_bitCount_0f7a4_8 ?_
  refine x_istore_n (lv2 := [(0, .int ((nI q) - ((Int32.toUInt32 ((nI q)) >>> (Int32.toUInt32 1 &&& Int32.toUInt32 31)).toInt32 &&& 1431655765)))]) dJ6_bitCount_0f7a4_9 (by decide) rfl ?_
  refine x_iload_n dJ6_bitCount_0f7a4_10 0 rfl ?_
  refine x_ldcw (v := 858993459) dJ6_bitCount_0f7a4_11 kJ6_266 ?_
  refine x_iand dJ6_bitCount_0f7a4_14 ?_
  refine x_iload_n dJ6_bitCount_0f7a4_15 0 rfl ?_
  refine x_iconst (v := 2) dJ6_bitCount_0f7a4_16 (by decide) ?_
  refine x_iushr dJ6_bitCount_0f7a4_17 ?_
  refine x_ldcw (v := 858993459) dJ6_bitCount_0f7a4_18 kJ6_266 ?_
  refine x_iand dJ6_bitCount_0f7a4_21 ?_
  refine x_iadd dJ6_bitCount_0f7a4_22 ?_
  refine x_istore_n (lv2 := [(0, .int ((((nI q) - ((Int32.toUInt32 ((nI q)) >>> (Int32.toUInt32 1 &&& Int32.toUInt32 31)).toInt32 &&& 1431655765)) &&& 858993459) + ((Int32.toUInt32 (((nI q) - ((Int32.toUInt32 ((nI q)) >>> (Int32.toUInt32 1 &&& Int32.toUInt32 31)).toInt32 &&& 1431655765))) >>> (Int32.toUInt32 2 &&& Int32.toUInt32 31)).toInt32 &&& 858993459)))]) dJ6_bitCount_0f7a4_23 (by decide) rfl ?_
  refine x_iload_n dJ6_bitCount_0f7a4_24 0 rfl ?_
  refine x_iload_n dJ6_bitCount_0f7a4_25 0 rfl ?_
  refine x_iconst (v := 4) dJ6_bitCount_0f7a4_26 (by decide) ?_
  refine x_iushr dJ6_bitCount_0f7a4_27 ?_
  refine x_iadd dJ6_bitCount_0f7a4_28 ?_
  refine x_ldcw (v := 252645135) dJ6_bitCount_0f7a4_29 kJ6_267 ?_
  refine x_iand dJ6_bitCount_0f7a4_32 ?_
  refine x_istore_n (lv2 := [(0, .int ((((((nI q) - ((Int32.toUInt32 ((nI q)) >>> (Int32.toUInt32 1 &&& Int32.toUInt32 31)).toInt32 &&& 1431655765)) &&& 858993459) + ((Int32.toUInt32 (((nI q) - ((Int32.toUInt32 ((nI q)) >>> (Int32.toUInt32 1 &&& Int32.toUInt32 31)).toInt32 &&& 1431655765))) >>> (Int32.toUInt32 2 &&& Int32.toUInt32 31)).toInt32 &&& 858993459)) + (Int32.toUInt32 (((((nI q) - ((Int32.toUInt32 ((nI q)) >>> (Int32.toUInt32 1 &&& Int32.toUInt32 31)).toInt32 &&& 1431655765)) &&& 858993459) + ((Int32.toUInt32 (((nI q) - ((Int32.toUInt32 ((nI q)) >>> (Int32.toUInt32 1 &&& Int32.toUInt32 31)).toInt32 &&& 1431655765))) >>> (Int32.toUInt32 2 &&& Int32.toUInt32 31)).toInt32 &&& 858993459))) >>> (Int32.toUInt32 4 &&& Int32.toUInt32 31)).toInt32) &&& 252645135))]) dJ6_bitCount_0f7a4_33 (by decide) rfl ?_
  refine x_iload_n dJ6_bitCount_0f7a4_34 0 rfl ?_
  refine x_iload_n dJ6_bitCount_0f7a4_35 0 rfl ?_
  refine x_bipush (v := 8) dJ6_bitCount_0f7a4_36 (by decide) ?_
  refine x_iushr dJ6_bitCount_0f7a4_38 ?_
  refine x_iadd dJ6_bitCount_0f7a4_39 ?_
  refine x_istore_n (lv2 := [(0, .int (((((((nI q) - ((Int32.toUInt32 ((nI q)) >>> (Int32.toUInt32 1 &&& Int32.toUInt32 31)).toInt32 &&& 1431655765)) &&& 858993459) + ((Int32.toUInt32 (((nI q) - ((Int32.toUInt32 ((nI q)) >>> (Int32.toUInt32 1 &&& Int32.toUInt32 31)).toInt32 &&& 1431655765))) >>> (Int32.toUInt32 2 &&& Int32.toUInt32 31)).toInt32 &&& 858993459)) + (Int32.toUInt32 (((((nI q) - ((Int32.toUInt32 ((nI q)) >>> (Int32.toUInt32 1 &&& Int32.toUInt32 31)).toInt32 &&& 1431655765)) &&& 858993459) + ((Int32.toUInt32 (((nI q) - ((Int32.toUInt32 ((nI q)) >>> (Int32.toUInt32 1 &&& Int32.toUInt32 31)).toInt32 &&& 1431655765))) >>> (Int32.toUInt32 2 &&& Int32.toUInt32 31)).toInt32 &&& 858993459))) >>> (Int32.toUInt32 4 &&& Int32.toUInt32 31)).toInt32) &&& 252645135) + (Int32.toUInt32 (((((((nI q) - ((Int32.toUInt32 ((nI q)) >>> (Int32.toUInt32 1 &&& Int32.toUInt32 31)).toInt32 &&& 1431655765)) &&& 858993459) + ((Int32.toUInt32 (((nI q) - ((Int32.toUInt32 ((nI q)) >>> (Int32.toUInt32 1 &&& Int32.toUInt32 31)).toInt32 &&& 1431655765))) >>> (Int32.toUInt32 2 &&& Int32.toUInt32 31)).toInt32 &&& 858993459)) + (Int32.toUInt32 (((((nI q) - ((Int32.toUInt32 ((nI q)) >>> (Int32.toUInt32 1 &&& Int32.toUInt32 31)).toInt32 &&& 1431655765)) &&& 858993459) + ((Int32.toUInt32 (((nI q) - ((Int32.toUInt32 ((nI q)) >>> (Int32.toUInt32 1 &&& Int32.toUInt32 31)).toInt32 &&& 1431655765))) >>> (Int32.toUInt32 2 &&& Int32.toUInt32 31)).toInt32 &&& 858993459))) >>> (Int32.toUInt32 4 &&& Int32.toUInt32 31)).toInt32) &&& 252645135)) >>> (Int32.toUInt32 8 &&& Int32.toUInt32 31)).toInt32))]) dJ6_bitCount_0f7a4_40 (by decide) rfl ?_
  refine x_iload_n dJ6_bitCount_0f7a4_41 0 rfl ?_
  refine x_iload_n dJ6_bitCount_0f7a4_42 0 rfl ?_
  refine x_bipush (v := 16) dJ6_bitCount_0f7a4_43 (by decide) ?_
  refine x_iushr dJ6_bitCount_0f7a4_45 ?_
  refine x_iadd dJ6_bitCount_0f7a4_46 ?_
  refine x_istore_n (lv2 := [(0, .int ((((((((nI q) - ((Int32.toUInt32 ((nI q)) >>> (Int32.toUInt32 1 &&& Int32.toUInt32 31)).toInt32 &&& 1431655765)) &&& 858993459) + ((Int32.toUInt32 (((nI q) - ((Int32.toUInt32 ((nI q)) >>> (Int32.toUInt32 1 &&& Int32.toUInt32 31)).toInt32 &&& 1431655765))) >>> (Int32.toUInt32 2 &&& Int32.toUInt32 31)).toInt32 &&& 858993459)) + (Int32.toUInt32 (((((nI q) - ((Int32.toUInt32 ((nI q)) >>> (Int32.toUInt32 1 &&& Int32.toUInt32 31)).toInt32 &&& 1431655765)) &&& 858993459) + ((Int32.toUInt32 (((nI q) - ((Int32.toUInt32 ((nI q)) >>> (Int32.toUInt32 1 &&& Int32.toUInt32 31)).toInt32 &&& 1431655765))) >>> (Int32.toUInt32 2 &&& Int32.toUInt32 31)).toInt32 &&& 858993459))) >>> (Int32.toUInt32 4 &&& Int32.toUInt32 31)).toInt32) &&& 252645135) + (Int32.toUInt32 (((((((nI q) - ((Int32.toUInt32 ((nI q)) >>> (Int32.toUInt32 1 &&& Int32.toUInt32 31)).toInt32 &&& 1431655765)) &&& 858993459) + ((Int32.toUInt32 (((nI q) - ((Int32.toUInt32 ((nI q)) >>> (Int32.toUInt32 1 &&& Int32.toUInt32 31)).toInt32 &&& 1431655765))) >>> (Int32.toUInt32 2 &&& Int32.toUInt32 31)).toInt32 &&& 858993459)) + (Int32.toUInt32 (((((nI q) - ((Int32.toUInt32 ((nI q)) >>> (Int32.toUInt32 1 &&& Int32.toUInt32 31)).toInt32 &&& 1431655765)) &&& 858993459) + ((Int32.toUInt32 (((nI q) - ((Int32.toUInt32 ((nI q)) >>> (Int32.toUInt32 1 &&& Int32.toUInt32 31)).toInt32 &&& 1431655765))) >>> (Int32.toUInt32 2 &&& Int32.toUInt32 31)).toInt32 &&& 858993459))) >>> (Int32.toUInt32 4 &&& Int32.toUInt32 31)).toInt32) &&& 252645135)) >>> (Int32.toUInt32 8 &&& Int32.toUInt32 31)).toInt32) + (Int32.toUInt32 ((((((((nI q) - ((Int32.toUInt32 ((nI q)) >>> (Int32.toUInt32 1 &&& Int32.toUInt32 31)).toInt32 &&& 1431655765)) &&& 858993459) + ((Int32.toUInt32 (((nI q) - ((Int32.toUInt32 ((nI q)) >>> (Int32.toUInt32 1 &&& Int32.toUInt32 31)).toInt32 &&& 1431655765))) >>> (Int32.toUInt32 2 &&& Int32.toUInt32 31)).toInt32 &&& 858993459)) + (Int32.toUInt32 (((((nI q) - ((Int32.toUInt32 ((nI q)) >>> (Int32.toUInt32 1 &&& Int32.toUInt32 31)).toInt32 &&& 1431655765)) &&& 858993459) + ((Int32.toUInt32 (((nI q) - ((Int32.toUInt32 ((nI q)) >>> (Int32.toUInt32 1 &&& Int32.toUInt32 31)).toInt32 &&& 1431655765))) >>> (Int32.toUInt32 2 &&& Int32.toUInt32 31)).toInt32 &&& 858993459))) >>> (Int32.toUInt32 4 &&& Int32.toUInt32 31)).toInt32) &&& 252645135) + (Int32.toUInt32 (((((((nI q) - ((Int32.toUInt32 ((nI q)) >>> (Int32.toUInt32 1 &&& Int32.toUInt32 31)).toInt32 &&& 1431655765)) &&& 858993459) + ((Int32.toUInt32 (((nI q) - ((Int32.toUInt32 ((nI q)) >>> (Int32.toUInt32 1 &&& Int32.toUInt32 31)).toInt32 &&& 1431655765))) >>> (Int32.toUInt32 2 &&& Int32.toUInt32 31)).toInt32 &&& 858993459)) + (Int32.toUInt32 (((((nI q) - ((Int32.toUInt32 ((nI q)) >>> (Int32.toUInt32 1 &&& Int32.toUInt32 31)).toInt32 &&& 1431655765)) &&& 858993459) + ((Int32.toUInt32 (((nI q) - ((Int32.toUInt32 ((nI q)) >>> (Int32.toUInt32 1 &&& Int32.toUInt32 31)).toInt32 &&& 1431655765))) >>> (Int32.toUInt32 2 &&& Int32.toUInt32 31)).toInt32 &&& 858993459))) >>> (Int32.toUInt32 4 &&& Int32.toUInt32 31)).toInt32) &&& 252645135)) >>> (Int32.toUInt32 8 &&& Int32.toUInt32 31)).toInt32)) >>> (Int32.toUInt32 16 &&& Int32.toUInt32 31)).toInt32))]) dJ6_bitCount_0f7a4_47 (by decide) rfl ?_
  refine x_iload_n dJ6_bitCount_0f7a4_48 0 rfl ?_
  refine x_bipush (v := 63) dJ6_bitCount_0f7a4_49 (by decide) ?_
  refine x_iand dJ6_bitCount_0f7a4_51 ?_
  exact x_iret dJ6_bitCount_0f7a4_52 rfl (by rw [pop_of nb hb q hq])

set_option maxRecDepth 100000 in
set_option maxHeartbeats 4000000 in
theorem l_choose {G : GT} {h : List PE} {nt nb : Nat} {mg most bs : Int32} {z1 z2 rec : Nat → Int32} (ht : nt ≤ 8) (hb : nb ≤ 8) (e1 : ∀ i, i < nt → z1 i = nI (fmN (fun j => GI rec mg i j) nb)) (e2 : ∀ j, j < nb → z2 j = rec (356 + 6 * j + 3)) (f32 : h[32]? = some (cO 3 [.ref 33, .ref 34, .int (nI nt), .int (nI nb), .int bs])) (f33 : h[33]? = some (cI 8 z1)) (f34 : h[34]? = some (cI 8 z2)) : ∀ (m q : Nat) (s : Int32 × Nat), 2 ^ nb - q = m → q ≤ 2 ^ nb → X (NF G) G mX3_choose 2 47 7 [(4, .int (nI q)), (3, .int (nI s.2)), (2, .int s.1), (0, .ref 32), (1, .int most)] [] h (fun o => o.1 = some (.int (boF (bxS rec mg nt nb) nb most m q s).1) ∧ o.2[32]? = some (cO 3 [.ref 33, .ref 34, .int (nI nt), .int (nI nb), .int (if (boF (bxS rec mg nt nb) nb most m q s).1 = -1 then bs else nI (boF (bxS rec mg nt nb) nb most m q s).2)]) ∧ Sm [32] h o.2) := by
  have h2 := two_le nb hb
  have sm0 : Sm [32] h h := Sm.rf
  intro m
  induction m with
  | zero =>
    intro q s hm hj
    refine x_iload dX3_choose_7 0 rfl ?_
    refine x_iconst (v := 1) dX3_choose_9 (by decide) ?_
    refine x_aload_n dX3_choose_10 3 rfl ?_
    refine x_get (v := .int (nI nb)) dX3_choose_11 fX3_24 f32 (by decide) rfl ?_
    refine x_ishl dX3_choose_14 ?_
    rw [bit_sh nb hb]
    refine x_icmp_geN (tgt := 68) (a := q) (b := (2 ^ nb)) (by omega) (by omega) dX3_choose_15 (by decide) (fun c_15 => ?_) (fun c_15 => absurd (by omega) c_15)
    refine x_iload_n dX3_choose_68 2 rfl ?_
    refine x_iconst (v := (-1)) dX3_choose_69 (by decide) ?_
    refine x_icmp_eq (tgt := 78) dX3_choose_70 (by decide) (fun c_70 => ?_) (fun c_70 => ?_)
    · refine x_iload_n dX3_choose_78 2 rfl ?_
      exact x_iret dX3_choose_79 rfl ⟨rfl, by rw [show boF (bxS rec mg nt nb) nb most 0 q s = s from rfl, if_pos c_70]; exact f32, sm0⟩
    · refine x_aload_n dX3_choose_73 3 rfl ?_
      refine x_iload_n dX3_choose_74 1 rfl ?_
      refine x_put (fs2 := [.ref 33, .ref 34, .int (nI nt), .int (nI nb), .int (nI s.2)]) dX3_choose_75 fX3_27 (Or.inl rfl) f32 (by decide) rfl rfl (Nat.le_of_ble_eq_true rfl) rfl (fun h101 a102 e103 l104 s105 => ?_)
      have f106 := (e103 33 (by decide)).trans f33
      have f107 := (e103 34 (by decide)).trans f34
      have sm108 := Sm.put sm0 e103 l104 s105 (by decide)
      refine x_iload_n dX3_choose_78 2 rfl ?_
      exact x_iret dX3_choose_79 rfl ⟨rfl, by rw [show boF (bxS rec mg nt nb) nb most 0 q s = s from rfl, if_neg c_70]; exact a102, sm108⟩
  | succ m ih =>
    intro q s hm hj
    refine x_iload dX3_choose_7 0 rfl ?_
    refine x_iconst (v := 1) dX3_choose_9 (by decide) ?_
    refine x_aload_n dX3_choose_10 3 rfl ?_
    refine x_get (v := .int (nI nb)) dX3_choose_11 fX3_24 f32 (by decide) rfl ?_
    refine x_ishl dX3_choose_14 ?_
    rw [bit_sh nb hb]
    refine x_icmp_geN (tgt := 68) (a := q) (b := (2 ^ nb)) (by omega) (by omega) dX3_choose_15 (by decide) (fun c_15 => absurd c_15 (by omega)) (fun c_15 => ?_)
    refine x_iload dX3_choose_18 0 rfl ?_
    refine x_callS (rf' := 0) (rl' := 0) [.int (nI q)] [] dX3_choose_20 vX3_57 Y_J6_bitCount_0f7a4 rfl rfl (Nat.le_of_ble_eq_true rfl) (Nat.le_of_ble_eq_true rfl) (by decide) (by decide) (c_bitCount hb (by omega)) (fun _ _ e9 => ?_)
    cases e9
    refine x_iload_n dX3_choose_23 4 rfl ?_
    refine x_icmp_le (tgt := 31) dX3_choose_24 (by decide) (fun c_24 => ?_) (fun c_24 => ?_)
    · refine x_aload_n dX3_choose_31 3 rfl ?_
      refine x_iload dX3_choose_32 0 rfl ?_
      refine x_callV (rf' := 1) (rl' := 23) [.int (nI q)] [] dX3_choose_34 vX3_63 Y_X3_costOf f32 (by decide) rfl rfl (Nat.le_of_ble_eq_true rfl) (Nat.le_of_ble_eq_true rfl) (by decide) (by decide) (c_costOfC ht hb (by omega) e1 e2 f32 f33 f34) (fun _ _ e9 => ?_)
      cases e9
      refine x_istore (lv2 := [(5, .int (bxS rec mg nt nb q)), (4, .int (nI q)), (3, .int (nI s.2)), (2, .int s.1), (0, .ref 32), (1, .int most)]) dX3_choose_37 (by decide) rfl ?_
      refine x_iload dX3_choose_39 0 rfl ?_
      refine x_iconst (v := (-1)) dX3_choose_41 (by decide) ?_
      refine x_icmp_eq (tgt := 62) dX3_choose_42 (by decide) (fun c_42 => ?_) (fun c_42 => ?_)
      · refine x_iincN (lv2 := [(4, .int (nI (q + 1))), (5, .int (bxS rec mg nt nb q)), (3, .int (nI s.2)), (2, .int s.1), (0, .ref 32), (1, .int most)]) dX3_choose_62 1 rfl (by decide) rfl ?_
        refine x_goto (tgt := 7) dX3_choose_65 (by decide) ?_
        refine x_perm [0, 2, 3, 4, 5] rfl ?_
        have eS : (if boC (bxS rec mg nt nb) nb most q s then (bxS rec mg nt nb q, q) else s) = s := if_neg (fun z => z.2.1 c_42)
        exact (ih (q + 1) s (by omega) (by omega)).weaken (fun o ho => by rw [boF, eS]; exact ho)
      · refine x_iload_n dX3_choose_45 3 rfl ?_
        refine x_iconst (v := (-1)) dX3_choose_46 (by decide) ?_
        refine x_icmp_eq (tgt := 56) dX3_choose_47 (by decide) (fun c_47 => ?_) (fun c_47 => ?_)
        · refine x_iload dX3_choose_56 0 rfl ?_
          refine x_istore_n (lv2 := [(2, .int (bxS rec mg nt nb q)), (5, .int (bxS rec mg nt nb q)), (4, .int (nI q)), (3, .int (nI s.2)), (0, .ref 32), (1, .int most)]) dX3_choose_58 (by decide) rfl ?_
          refine x_iload dX3_choose_59 2 rfl ?_
          refine x_istore_n (lv2 := [(3, .int (nI q)), (2, .int (bxS rec mg nt nb q)), (5, .int (bxS rec mg nt nb q)), (4, .int (nI q)), (0, .ref 32), (1, .int most)]) dX3_choose_61 (by decide) rfl ?_
          refine x_iincN (lv2 := [(4, .int (nI (q + 1))), (3, .int (nI q)), (2, .int (bxS rec mg nt nb q)), (5, .int (bxS rec mg nt nb q)), (0, .ref 32), (1, .int most)]) dX3_choose_62 3 rfl (by decide) rfl ?_
          refine x_goto (tgt := 7) dX3_choose_65 (by decide) ?_
          refine x_perm (lv2 := [(4, .int (nI (q + 1))), (3, .int (nI (bxS rec mg nt nb q, q).2)), (2, .int (bxS rec mg nt nb q, q).1), (0, .ref 32), (1, .int most)]) [0, 1, 2, 4, 5] rfl ?_
          have eS : (if boC (bxS rec mg nt nb) nb most q s then (bxS rec mg nt nb q, q) else s) = (bxS rec mg nt nb q, q) := if_pos ⟨Int32.not_lt.mpr c_24, c_42, Or.inl c_47⟩
          exact (ih (q + 1) (bxS rec mg nt nb q, q) (by omega) (by omega)).weaken (fun o ho => by rw [boF, eS]; exact ho)
        · refine x_iload dX3_choose_50 0 rfl ?_
          refine x_iload_n dX3_choose_52 3 rfl ?_
          refine x_icmp_ge (tgt := 62) dX3_choose_53 (by decide) (fun c_53 => ?_) (fun c_53 => ?_)
          · refine x_iincN (lv2 := [(4, .int (nI (q + 1))), (5, .int (bxS rec mg nt nb q)), (3, .int (nI s.2)), (2, .int s.1), (0, .ref 32), (1, .int most)]) dX3_choose_62 1 rfl (by decide) rfl ?_
            refine x_goto (tgt := 7) dX3_choose_65 (by decide) ?_
            refine x_perm [0, 2, 3, 4, 5] rfl ?_
            have eS : (if boC (bxS rec mg nt nb) nb most q s then (bxS rec mg nt nb q, q) else s) = s := if_neg (fun z => z.2.2.elim c_47 (fun y => absurd c_53 (Int32.not_le.mpr y)))
            exact (ih (q + 1) s (by omega) (by omega)).weaken (fun o ho => by rw [boF, eS]; exact ho)
          · refine x_iload dX3_choose_56 0 rfl ?_
            refine x_istore_n (lv2 := [(2, .int (bxS rec mg nt nb q)), (5, .int (bxS rec mg nt nb q)), (4, .int (nI q)), (3, .int (nI s.2)), (0, .ref 32), (1, .int most)]) dX3_choose_58 (by decide) rfl ?_
            refine x_iload dX3_choose_59 2 rfl ?_
            refine x_istore_n (lv2 := [(3, .int (nI q)), (2, .int (bxS rec mg nt nb q)), (5, .int (bxS rec mg nt nb q)), (4, .int (nI q)), (0, .ref 32), (1, .int most)]) dX3_choose_61 (by decide) rfl ?_
            refine x_iincN (lv2 := [(4, .int (nI (q + 1))), (3, .int (nI q)), (2, .int (bxS rec mg nt nb q)), (5, .int (bxS rec mg nt nb q)), (0, .ref 32), (1, .int most)]) dX3_choose_62 3 rfl (by decide) rfl ?_
            refine x_goto (tgt := 7) dX3_choose_65 (by decide) ?_
            refine x_perm (lv2 := [(4, .int (nI (q + 1))), (3, .int (nI (bxS rec mg nt nb q, q).2)), (2, .int (bxS rec mg nt nb q, q).1), (0, .ref 32), (1, .int most)]) [0, 1, 2, 4, 5] rfl ?_
            have eS : (if boC (bxS rec mg nt nb) nb most q s then (bxS rec mg nt nb q, q) else s) = (bxS rec mg nt nb q, q) := if_pos ⟨Int32.not_lt.mpr c_24, c_42, Or.inr (Int32.not_le.mp c_53)⟩
            exact (ih (q + 1) (bxS rec mg nt nb q, q) (by omega) (by omega)).weaken (fun o ho => by rw [boF, eS]; exact ho)
    · refine x_iconst (v := (-1)) dX3_choose_27 (by decide) ?_
      refine x_goto (tgt := 37) dX3_choose_28 (by decide) ?_
      refine x_istore (lv2 := [(5, .int (-1)), (4, .int (nI q)), (3, .int (nI s.2)), (2, .int s.1), (0, .ref 32), (1, .int most)]) dX3_choose_37 (by decide) rfl ?_
      refine x_iload dX3_choose_39 0 rfl ?_
      refine x_iconst (v := (-1)) dX3_choose_41 (by decide) ?_
      refine x_icmp_eq (tgt := 62) dX3_choose_42 (by decide) (fun c_42 => ?_) (fun c_42 => absurd (by decide) c_42)
      refine x_iincN (lv2 := [(4, .int (nI (q + 1))), (5, .int (-1)), (3, .int (nI s.2)), (2, .int s.1), (0, .ref 32), (1, .int most)]) dX3_choose_62 1 rfl (by decide) rfl ?_
      refine x_goto (tgt := 7) dX3_choose_65 (by decide) ?_
      refine x_perm [0, 2, 3, 4, 5] rfl ?_
      have eS : (if boC (bxS rec mg nt nb) nb most q s then (bxS rec mg nt nb q, q) else s) = s := if_neg (fun z => z.1 (Int32.not_le.mp c_24))
      exact (ih (q + 1) s (by omega) (by omega)).weaken (fun o ho => by rw [boF, eS]; exact ho)

set_option maxRecDepth 100000 in
set_option maxHeartbeats 4000000 in
theorem c_chooseB {G : GT} {h : List PE} {nt nb : Nat} {mg most bs : Int32} {z1 z2 rec : Nat → Int32} (ht : nt ≤ 8) (hb : nb ≤ 8) (e1 : ∀ i, i < nt → z1 i = nI (fmN (fun j => GI rec mg i j) nb)) (e2 : ∀ j, j < nb → z2 j = rec (356 + 6 * j + 3)) (f32 : h[32]? = some (cO 3 [.ref 33, .ref 34, .int (nI nt), .int (nI nb), .int bs])) (f33 : h[33]? = some (cI 8 z1)) (f34 : h[34]? = some (cI 8 z2)) : CT G mX3_choose 2 47 [.ref 32, .int most] h (fun o => o.1 = some (.int (bxR rec mg most nt nb).1) ∧ o.2[32]? = some (cO 3 [.ref 33, .ref 34, .int (nI nt), .int (nI nb), .int (if (bxR rec mg most nt nb).1 = -1 then bs else nI (bxR rec mg most nt nb).2)]) ∧ Sm [32] h o.2) := by
  show X (NF G) G mX3_choose 2 47 0 [(0, .ref 32), (1, .int most)] [] h _
  refine x_iconst (v := (-1)) dX3_choose_0 (by decide) ?_
  refine x_istore_n (lv2 := [(2, .int (-1)), (0, .ref 32), (1, .int most)]) dX3_choose_1 (by decide) rfl ?_
  refine x_iconst (v := 0) dX3_choose_2 (by decide) ?_
  refine x_istore_n (lv2 := [(3, .int 0), (2, .int (-1)), (0, .ref 32), (1, .int most)]) dX3_choose_3 (by decide) rfl ?_
  refine x_iconst (v := 1) dX3_choose_4 (by decide) ?_
  refine x_istore (lv2 := [(4, .int 1), (3, .int 0), (2, .int (-1)), (0, .ref 32), (1, .int most)]) dX3_choose_5 (by decide) rfl ?_
  refine x_perm (lv2 := [(4, .int (nI 1)), (3, .int (nI ((-1 : Int32), 0).2)), (2, .int ((-1 : Int32), 0).1), (0, .ref 32), (1, .int most)]) [0, 1, 2, 3, 4] rfl ?_
  exact l_choose ht hb e1 e2 f32 f33 f34 (2 ^ nb - 1) 1 (-1, 0) rfl (two_le nb hb).1

set_option maxRecDepth 100000 in
set_option maxHeartbeats 4000000 in
theorem l_takeI {G : GT} {h0 : List PE} {ab b1 b2 b3 b4 : Nat} {n0 n3 ln day mg bs : Int32} {fq tq bq : Nat → Nat} {zt zb : Nat → Option Nat} {rec : Nat → Int32} {c : Nat × Nat × Nat × Nat} (w4 : c.2.1 ≤ 8) (w6 : c.2.2.1 ≤ 8) (fab : h0[ab]? = some (cO 0 [.ref b1, .ref b2, .ref b3, .ref b4, .int n0, .int (nI (c.2.1)), .int (nI (c.2.2.1)), .int n3, .int ln, .int day])) (fb2 : h0[b2]? = some (cR 5 8 zt)) (fb3 : h0[b3]? = some (cR 6 8 zb)) (hab : ab = 16 ∨ 51 ≤ ab) (hb2 : b2 = 18 ∨ 51 ≤ b2) (hb3 : b3 = 19 ∨ 51 ≤ b3) (hT : ∀ k, k < c.2.1 → zt k = some (tq k) ∧ ThingAt h0 rec (164 + 24 * k) fq (tq k)) (hX : ∀ k, k < c.2.2.1 → zb k = some (bq k) ∧ BoxAt h0 rec (356 + 6 * k) (bq k)) (f32 : h0[32]? = some (cO 3 [.ref 33, .ref 34, .int (nI (c.2.1)), .int (nI (c.2.2.1)), .int bs])) {Q : OT → Prop} {j : Nat} (hj : j < c.2.2.1) (KX : ∀ (h : List PE) (z1 z2 : Nat → Int32), Sm [33, 34] h0 h → h[33]? = some (cI 8 z1) → h[34]? = some (cI 8 z2) → (∀ i, i < c.2.1 → z1 i = nI (fmN (fun j => GI rec mg i j) (j + 1))) → (∀ i, i < (j + 1) → z2 i = rec (356 + 6 * i + 3)) → X (NF G) G mX3_take 2 47 146 [(3, .int (nI j)), (0, .ref 32), (1, .ref ab), (2, .int mg)] [] h Q) : ∀ (m i : Nat) (z1 z2 : Nat → Int32) (h : List PE), c.2.1 - i = m → i ≤ c.2.1 → Sm [33, 34] h0 h → h[33]? = some (cI 8 z1) → h[34]? = some (cI 8 z2) → (∀ u, u < i → z1 u = nI (fmN (fun j => GI rec mg u j) (j + 1))) → (∀ u, i ≤ u → u < c.2.1 → z1 u = nI (fmN (fun j => GI rec mg u j) j)) → (∀ i, i < (j + 1) → z2 i = rec (356 + 6 * i + 3)) → X (NF G) G mX3_take 2 47 89 [(5, .int (nI i)), (3, .int (nI j)), (4, .ref (bq j)), (0, .ref 32), (1, .ref ab), (2, .int mg)] [] h Q := by
  intro m
  induction m with
  | zero =>
    intro i z1 z2 h hm hi sm f33 f34 x1 x2 x3
    have gab := sm.at fab (by simp; omega)
    have g32 := sm.at f32 (by decide)
    refine x_iload dX3_take_89 0 rfl ?_
    refine x_aload_n dX3_take_91 3 rfl ?_
    refine x_get (v := .int (nI (c.2.1))) dX3_take_92 fX3_20 g32 (by decide) rfl ?_
    refine x_icmp_geN (tgt := 146) (a := i) (b := (c.2.1)) (by omega) (by omega) dX3_take_95 (by decide) (fun c_95 => ?_) (fun c_95 => absurd (by omega) c_95)
    refine x_perm [1, 3, 4, 5] rfl ?_
    exact KX h z1 z2 sm f33 f34 (fun u hu => x1 u (by omega)) x3
  | succ m ih =>
    intro i z1 z2 h hm hi sm f33 f34 x1 x2 x3
    have gab := sm.at fab (by simp; omega)
    have g32 := sm.at f32 (by decide)
    have gb2 := sm.at fb2 (by simp; omega)
    have hT1 := (hT i (by omega)).2.kept (fun u z hu hz => sm.at hz (by simp; omega))
    have hX1 := (hX j hj).2.kept (fun u z hu hz => sm.at hz (by simp; omega))
    have y1 := x2 i (by omega) (by omega)
    have y2 := fmN_lt (g := fun j => GI rec mg i j) j
    have y3 := two_le j (by omega)
    have y4 : fmN (fun j => GI rec mg i j) j < 128 := Nat.lt_of_lt_of_le y2 (Nat.pow_le_pow_right (by decide) (show j ≤ 7 by omega) : 2 ^ j ≤ 2 ^ 7)
    obtain ⟨hta, s1, s2, s3, s4, v1, v2, v3, v4, -, -, -, -, fta, -⟩ := id hT1
    obtain ⟨hba, p9, z9, -, fba, -⟩ := id hX1
    refine x_iload dX3_take_89 0 rfl ?_
    refine x_aload_n dX3_take_91 3 rfl ?_
    refine x_get (v := .int (nI (c.2.1))) dX3_take_92 fX3_20 g32 (by decide) rfl ?_
    refine x_icmp_geN (tgt := 146) (a := i) (b := (c.2.1)) (by omega) (by omega) dX3_take_95 (by decide) (fun c_95 => absurd c_95 (by omega)) (fun c_95 => ?_)
    refine x_aload_n dX3_take_98 4 rfl ?_
    refine x_iload dX3_take_99 0 rfl ?_
    refine x_callV (rf' := 0) (rl' := 0) [.int (nI i)] [] dX3_take_101 vX3_47 Y_X0_thingAt gab (by omega) rfl rfl (Nat.le_of_ble_eq_true rfl) (Nat.le_of_ble_eq_true rfl) (by decide) (by decide) (c_thingAtS gab gb2 (by omega) (by omega) w4 (by omega) (hT i (by omega)).1) (fun _ _ e9 => ?_)
    cases e9
    refine x_astore (lv2 := [(6, .ref (tq i)), (5, .int (nI i)), (3, .int (nI j)), (4, .ref (bq j)), (0, .ref 32), (1, .ref ab), (2, .int mg)]) dX3_take_104 (by decide) rfl ?_
    refine x_aload dX3_take_106 3 rfl ?_
    refine x_ifnull dX3_take_108 ?_
    refine x_aload dX3_take_111 0 rfl ?_
    refine x_ifnull dX3_take_113 ?_
    refine x_aload dX3_take_116 0 rfl ?_
    refine x_aload dX3_take_118 3 rfl ?_
    refine x_iload_n dX3_take_120 6 rfl ?_
    refine x_callV (rf' := 1) (rl' := 23) [.ref (bq j), .int mg] [] dX3_take_121 vX3_51 Y_X9_goesInto fta (by omega) rfl rfl (Nat.le_of_ble_eq_true rfl) (Nat.le_of_ble_eq_true rfl) (by decide) (by decide) (c_goesIntoC hT1 hX1) (fun _ _ e9 => ?_)
    cases e9
    by_cases hg : GI rec mg i j = true
    · rw [if_pos hg]
      refine x_if_eq (tgt := 140) dX3_take_124 (by decide) (fun c_124 => absurd c_124 (by decide)) (fun c_124 => ?_)
      refine x_aload_n dX3_take_127 4 rfl ?_
      refine x_get (v := .ref 33) dX3_take_128 fX3_11 g32 (by decide) rfl ?_
      refine x_iload dX3_take_131 1 rfl ?_
      refine x_dup2 dX3_take_133 rfl rfl ?_
      refine x_ialdN (i := i) dX3_take_134 f33 (by decide) (by omega) (by decide) ?_
      refine x_iconst (v := 1) dX3_take_135 (by decide) ?_
      refine x_iload_n dX3_take_136 2 rfl ?_
      refine x_ishl dX3_take_137 ?_
      refine x_ior dX3_take_138 ?_
      rw [y1, bit_or j (by omega) _ y4 y2]
      refine x_iastN (i := i) dX3_take_139 f33 (by decide) (by omega) (by decide) (fun h101 a102 e103 l104 s105 => ?_)
      have f106 := (e103 32 (by decide)).trans g32
      have f107 := (e103 34 (by decide)).trans f34
      have f108 := (e103 ab (by omega)).trans gab
      have f109 := (e103 (tq i) (by omega)).trans fta
      have sm110 := Sm.put sm e103 l104 s105 (by decide)
      refine x_iincN (lv2 := [(5, .int (nI (i + 1))), (6, .ref (tq i)), (3, .int (nI j)), (4, .ref (bq j)), (0, .ref 32), (1, .ref ab), (2, .int mg)]) dX3_take_140 1 rfl (by decide) rfl ?_
      refine x_goto (tgt := 89) dX3_take_143 (by decide) ?_
      refine x_perm [0, 2, 3, 4, 5, 6] rfl ?_
      refine ih (i + 1) _ z2 h101 (by omega) (by omega) sm110 a102 f107 (fun u hu => ?_) (fun u h1 h2 => ?_) x3
      · by_cases e : u = i
        · subst e; rw [pk_us, fmN, if_pos hg]
        · rw [pk_un e]; exact x1 u (by omega)
      · rw [pk_un (by omega)]; exact x2 u (by omega) h2
    · rw [if_neg hg]
      refine x_if_eq (tgt := 140) dX3_take_124 (by decide) (fun c_124 => ?_) (fun c_124 => absurd (by decide) c_124)
      refine x_iincN (lv2 := [(5, .int (nI (i + 1))), (6, .ref (tq i)), (3, .int (nI j)), (4, .ref (bq j)), (0, .ref 32), (1, .ref ab), (2, .int mg)]) dX3_take_140 1 rfl (by decide) rfl ?_
      refine x_goto (tgt := 89) dX3_take_143 (by decide) ?_
      refine x_perm [0, 2, 3, 4, 5, 6] rfl ?_
      refine ih (i + 1) z1 z2 h (by omega) (by omega) sm f33 f34 (fun u hu => ?_) (fun u h1 h2 => x2 u (by omega) h2) x3
      by_cases e : u = i
      · subst e; rw [fmN, if_neg hg]; exact y1
      · exact x1 u (by omega)

set_option maxRecDepth 100000 in
set_option maxHeartbeats 4000000 in
theorem l_takeJ {G : GT} {h0 : List PE} {ab b1 b2 b3 b4 : Nat} {n0 n3 ln day mg bs : Int32} {fq tq bq : Nat → Nat} {zt zb : Nat → Option Nat} {rec : Nat → Int32} {c : Nat × Nat × Nat × Nat} (w4 : c.2.1 ≤ 8) (w6 : c.2.2.1 ≤ 8) (fab : h0[ab]? = some (cO 0 [.ref b1, .ref b2, .ref b3, .ref b4, .int n0, .int (nI (c.2.1)), .int (nI (c.2.2.1)), .int n3, .int ln, .int day])) (fb2 : h0[b2]? = some (cR 5 8 zt)) (fb3 : h0[b3]? = some (cR 6 8 zb)) (hab : ab = 16 ∨ 51 ≤ ab) (hb2 : b2 = 18 ∨ 51 ≤ b2) (hb3 : b3 = 19 ∨ 51 ≤ b3) (hT : ∀ k, k < c.2.1 → zt k = some (tq k) ∧ ThingAt h0 rec (164 + 24 * k) fq (tq k)) (hX : ∀ k, k < c.2.2.1 → zb k = some (bq k) ∧ BoxAt h0 rec (356 + 6 * k) (bq k)) (f32 : h0[32]? = some (cO 3 [.ref 33, .ref 34, .int (nI (c.2.1)), .int (nI (c.2.2.1)), .int bs])) : ∀ (m j : Nat) (z1 z2 : Nat → Int32) (h : List PE), c.2.2.1 - j = m → j ≤ c.2.2.1 → Sm [33, 34] h0 h → h[33]? = some (cI 8 z1) → h[34]? = some (cI 8 z2) → (∀ i, i < c.2.1 → z1 i = nI (fmN (fun j => GI rec mg i j) j)) → (∀ i, i < j → z2 i = rec (356 + 6 * i + 3)) → X (NF G) G mX3_take 2 47 51 [(3, .int (nI j)), (0, .ref 32), (1, .ref ab), (2, .int mg)] [] h (fun o => o.1 = none ∧ Sm [33, 34] h0 o.2 ∧ ∃ (z1 z2 : Nat → Int32), o.2[33]? = some (cI 8 z1) ∧ o.2[34]? = some (cI 8 z2) ∧ (∀ i, i < c.2.1 → z1 i = nI (fmN (fun j => GI rec mg i j) c.2.2.1)) ∧ (∀ i, i < c.2.2.1 → z2 i = rec (356 + 6 * i + 3))) := by
  intro m
  induction m with
  | zero =>
    intro j z1 z2 h hm hj sm f33 f34 x1 x2
    have gab := sm.at fab (by simp; omega)
    have g32 := sm.at f32 (by decide)
    refine x_iload_n dX3_take_51 0 rfl ?_
    refine x_aload_n dX3_take_52 1 rfl ?_
    refine x_get (v := .int (nI (c.2.2.1))) dX3_take_53 fX3_24 g32 (by decide) rfl ?_
    refine x_icmp_geN (tgt := 152) (a := j) (b := (c.2.2.1)) (by omega) (by omega) dX3_take_56 (by decide) (fun c_56 => ?_) (fun c_56 => absurd (by omega) c_56)
    exact x_vret dX3_take_152 rfl ⟨rfl, sm, z1, z2, f33, f34, (fun i hi => by rw [x1 i hi, show j = c.2.2.1 by omega]), fun i hi => x2 i (by omega)⟩
  | succ m ih =>
    intro j z1 z2 h hm hj sm f33 f34 x1 x2
    have gab := sm.at fab (by simp; omega)
    have g32 := sm.at f32 (by decide)
    have gb3 := sm.at fb3 (by simp; omega)
    have hX1 := (hX j (by omega)).2.kept (fun u z hu hz => sm.at hz (by simp; omega))
    obtain ⟨hba, p, zz, hp, fba, -⟩ := id hX1
    refine x_iload_n dX3_take_51 0 rfl ?_
    refine x_aload_n dX3_take_52 1 rfl ?_
    refine x_get (v := .int (nI (c.2.2.1))) dX3_take_53 fX3_24 g32 (by decide) rfl ?_
    refine x_icmp_geN (tgt := 152) (a := j) (b := (c.2.2.1)) (by omega) (by omega) dX3_take_56 (by decide) (fun c_56 => absurd c_56 (by omega)) (fun c_56 => ?_)
    refine x_aload_n dX3_take_59 2 rfl ?_
    refine x_iload_n dX3_take_60 0 rfl ?_
    refine x_callV (rf' := 0) (rl' := 0) [.int (nI j)] [] dX3_take_61 vX3_38 Y_X0_boxAt gab (by omega) rfl rfl (Nat.le_of_ble_eq_true rfl) (Nat.le_of_ble_eq_true rfl) (by decide) (by decide) (c_boxAtS gab gb3 (by omega) (by omega) w6 (by omega) (hX j (by omega)).1) (fun _ _ e9 => ?_)
    cases e9
    refine x_astore (lv2 := [(4, .ref (bq j)), (3, .int (nI j)), (0, .ref 32), (1, .ref ab), (2, .int mg)]) dX3_take_64 (by decide) rfl ?_
    refine x_aload_n dX3_take_66 2 rfl ?_
    refine x_get (v := .ref 34) dX3_take_67 fX3_17 g32 (by decide) rfl ?_
    refine x_iload_n dX3_take_70 1 rfl ?_
    refine x_aload dX3_take_71 0 rfl ?_
    refine x_ifnonnull (tgt := 80) dX3_take_73 (by decide) ?_
    refine x_aload dX3_take_80 0 rfl ?_
    refine x_get (v := .int (rec (356 + 6 * j + 3))) dX3_take_82 fX3_42 fba (by omega) rfl ?_
    refine x_iastN (i := j) dX3_take_85 f34 (by decide) (by omega) (by decide) (fun h101 a102 e103 l104 s105 => ?_)
    have f106 := (e103 32 (by decide)).trans g32
    have f107 := (e103 33 (by decide)).trans f33
    have f108 := (e103 ab (by omega)).trans gab
    have f109 := (e103 (bq j) (by omega)).trans fba
    have sm110 := Sm.put sm e103 l104 s105 (by decide)
    refine x_iconst (v := 0) dX3_take_86 (by decide) ?_
    refine x_istore (lv2 := [(5, .int 0), (4, .ref (bq j)), (3, .int (nI j)), (0, .ref 32), (1, .ref ab), (2, .int mg)]) dX3_take_87 (by decide) rfl ?_
    refine x_perm (lv2 := [(5, .int (nI 0)), (3, .int (nI j)), (4, .ref (bq j)), (0, .ref 32), (1, .ref ab), (2, .int mg)]) [0, 2, 1, 3, 4, 5] rfl ?_
    refine l_takeI w4 w6 fab fb2 fb3 hab hb2 hb3 hT hX f32 (j := j) (by omega) (fun h8 v1 v2 sm8 g33 g34 y1 y2 => ?_) c.2.1 0 z1 _ h101 rfl (by omega) sm110 f107 a102 (fun u hu => absurd hu (by omega)) (fun u _ hu => x1 u hu) (fun u hu => ?_)
    · refine x_iincN (lv2 := [(3, .int (nI (j + 1))), (0, .ref 32), (1, .ref ab), (2, .int mg)]) dX3_take_146 0 rfl (by decide) rfl ?_
      refine x_goto (tgt := 51) dX3_take_149 (by decide) ?_
      refine x_perm [0, 1, 2, 3] rfl ?_
      exact ih (j + 1) v1 v2 h8 (by omega) (by omega) sm8 g33 g34 y1 y2
    · by_cases e : u = j
      · subst e; rw [pk_us]
      · rw [pk_un e]; exact x2 u (by omega)

set_option maxRecDepth 100000 in
set_option maxHeartbeats 4000000 in
theorem l_take0 {G : GT} {h0 : List PE} {ab b1 b2 b3 b4 : Nat} {n0 n3 ln day mg bs : Int32} {fq tq bq : Nat → Nat} {zt zb : Nat → Option Nat} {rec : Nat → Int32} {c : Nat × Nat × Nat × Nat} (w4 : c.2.1 ≤ 8) (w6 : c.2.2.1 ≤ 8) (fab : h0[ab]? = some (cO 0 [.ref b1, .ref b2, .ref b3, .ref b4, .int n0, .int (nI (c.2.1)), .int (nI (c.2.2.1)), .int n3, .int ln, .int day])) (fb2 : h0[b2]? = some (cR 5 8 zt)) (fb3 : h0[b3]? = some (cR 6 8 zb)) (hab : ab = 16 ∨ 51 ≤ ab) (hb2 : b2 = 18 ∨ 51 ≤ b2) (hb3 : b3 = 19 ∨ 51 ≤ b3) (hT : ∀ k, k < c.2.1 → zt k = some (tq k) ∧ ThingAt h0 rec (164 + 24 * k) fq (tq k)) (hX : ∀ k, k < c.2.2.1 → zb k = some (bq k) ∧ BoxAt h0 rec (356 + 6 * k) (bq k)) (f32 : h0[32]? = some (cO 3 [.ref 33, .ref 34, .int (nI (c.2.1)), .int (nI (c.2.2.1)), .int bs])) : ∀ (m j : Nat) (z1 z2 : Nat → Int32) (h : List PE), c.2.1 - j = m → j ≤ c.2.1 → Sm [33, 34] h0 h → h[33]? = some (cI 8 z1) → h[34]? = some (cI 8 z2) → (∀ i, i < j → z1 i = 0) → X (NF G) G mX3_take 2 47 28 [(3, .int (nI j)), (0, .ref 32), (1, .ref ab), (2, .int mg)] [] h (fun o => o.1 = none ∧ Sm [33, 34] h0 o.2 ∧ ∃ (z1 z2 : Nat → Int32), o.2[33]? = some (cI 8 z1) ∧ o.2[34]? = some (cI 8 z2) ∧ (∀ i, i < c.2.1 → z1 i = nI (fmN (fun j => GI rec mg i j) c.2.2.1)) ∧ (∀ i, i < c.2.2.1 → z2 i = rec (356 + 6 * i + 3))) := by
  intro m
  induction m with
  | zero =>
    intro j z1 z2 h hm hj sm f33 f34 x1
    have gab := sm.at fab (by simp; omega)
    have g32 := sm.at f32 (by decide)
    refine x_iload_n dX3_take_28 0 rfl ?_
    refine x_aload_n dX3_take_29 1 rfl ?_
    refine x_get (v := .int (nI (c.2.1))) dX3_take_30 fX3_20 g32 (by decide) rfl ?_
    refine x_icmp_geN (tgt := 49) (a := j) (b := (c.2.1)) (by omega) (by omega) dX3_take_33 (by decide) (fun c_33 => ?_) (fun c_33 => absurd (by omega) c_33)
    refine x_iconst (v := 0) dX3_take_49 (by decide) ?_
    refine x_istore_n (lv2 := [(3, .int 0), (0, .ref 32), (1, .ref ab), (2, .int mg)]) dX3_take_50 (by decide) rfl ?_
    refine x_perm (lv2 := [(3, .int (nI 0)), (0, .ref 32), (1, .ref ab), (2, .int mg)]) [0, 1, 2, 3] rfl ?_
    exact l_takeJ w4 w6 fab fb2 fb3 hab hb2 hb3 hT hX f32 c.2.2.1 0 z1 z2 h rfl (by omega) sm f33 f34 (fun i hi => x1 i (by omega)) (fun i hi => absurd hi (by omega))
  | succ m ih =>
    intro j z1 z2 h hm hj sm f33 f34 x1
    have gab := sm.at fab (by simp; omega)
    have g32 := sm.at f32 (by decide)
    refine x_iload_n dX3_take_28 0 rfl ?_
    refine x_aload_n dX3_take_29 1 rfl ?_
    refine x_get (v := .int (nI (c.2.1))) dX3_take_30 fX3_20 g32 (by decide) rfl ?_
    refine x_icmp_geN (tgt := 49) (a := j) (b := (c.2.1)) (by omega) (by omega) dX3_take_33 (by decide) (fun c_33 => absurd c_33 (by omega)) (fun c_33 => ?_)
    refine x_aload_n dX3_take_36 1 rfl ?_
    refine x_get (v := .ref 33) dX3_take_37 fX3_11 g32 (by decide) rfl ?_
    refine x_iload_n dX3_take_40 0 rfl ?_
    refine x_iconst (v := 0) dX3_take_41 (by decide) ?_
    refine x_iastN (i := j) dX3_take_42 f33 (by decide) (by omega) (by decide) (fun h101 a102 e103 l104 s105 => ?_)
    have f106 := (e103 32 (by decide)).trans g32
    have f107 := (e103 34 (by decide)).trans f34
    have sm108 := Sm.put sm e103 l104 s105 (by decide)
    refine x_iincN (lv2 := [(3, .int (nI (j + 1))), (0, .ref 32), (1, .ref ab), (2, .int mg)]) dX3_take_43 0 rfl (by decide) rfl ?_
    refine x_goto (tgt := 28) dX3_take_46 (by decide) ?_
    refine x_perm [0, 1, 2, 3] rfl ?_
    refine ih (j + 1) _ z2 h101 (by omega) (by omega) sm108 a102 f107 (fun u hu => ?_)
    by_cases e : u = j
    · subst e; rw [pk_us]
    · rw [pk_un e]; exact x1 u (by omega)

theorem min8 {n : Nat} (h : n ≤ 8) : (if (8 : Int32) < nI n then 8 else nI n) = nI n := if_neg (fun q => absurd ((nI_ltI (a := 8) (by decide) (by omega)).mp q) (by omega))

set_option maxRecDepth 100000 in
set_option maxHeartbeats 4000000 in
theorem c_takeC {G : GT} {h : List PE} {ab b1 b2 b3 b4 : Nat} {tc bc n0 n3 ln day mg bs : Int32} {fq tq bq : Nat → Nat} {zt zb : Nat → Option Nat} {rec : Nat → Int32} {c : Nat × Nat × Nat × Nat} (w4 : c.2.1 ≤ 8) (w6 : c.2.2.1 ≤ 8) (fab : h[ab]? = some (cO 0 [.ref b1, .ref b2, .ref b3, .ref b4, .int n0, .int (nI (c.2.1)), .int (nI (c.2.2.1)), .int n3, .int ln, .int day])) (fb2 : h[b2]? = some (cR 5 8 zt)) (fb3 : h[b3]? = some (cR 6 8 zb)) (hab : ab = 16 ∨ 51 ≤ ab) (hb2 : b2 = 18 ∨ 51 ≤ b2) (hb3 : b3 = 19 ∨ 51 ≤ b3) (hT : ∀ k, k < c.2.1 → zt k = some (tq k) ∧ ThingAt h rec (164 + 24 * k) fq (tq k)) (hX : ∀ k, k < c.2.2.1 → zb k = some (bq k) ∧ BoxAt h rec (356 + 6 * k) (bq k)) (f32 : h[32]? = some (cO 3 [.ref 33, .ref 34, .int tc, .int bc, .int bs])) {z1 z2 : Nat → Int32} (f33 : h[33]? = some (cI 8 z1)) (f34 : h[34]? = some (cI 8 z2)) : CT G mX3_take 2 47 [.ref 32, .ref ab, .int mg] h (fun o => o.1 = none ∧ Sm [32, 33, 34] h o.2 ∧ o.2[32]? = some (cO 3 [.ref 33, .ref 34, .int (nI (c.2.1)), .int (nI (c.2.2.1)), .int bs]) ∧ ∃ (z1 z2 : Nat → Int32), o.2[33]? = some (cI 8 z1) ∧ o.2[34]? = some (cI 8 z2) ∧ (∀ i, i < c.2.1 → z1 i = nI (fmN (fun j => GI rec mg i j) c.2.2.1)) ∧ (∀ i, i < c.2.2.1 → z2 i = rec (356 + 6 * i + 3))) := by
  have sm0 : Sm [32] h h := Sm.rf
  show X (NF G) G mX3_take 2 47 0 [(0, .ref 32), (1, .ref ab), (2, .int mg)] [] h _
  refine x_aload_n dX3_take_0 0 rfl ?_
  refine x_aload_n dX3_take_1 1 rfl ?_
  refine x_get (v := .int (nI (c.2.1))) dX3_take_2 fX3_30 fab (by omega) rfl ?_
  refine x_bipush (v := 8) dX3_take_5 (by decide) ?_
  refine x_callS (rf' := 0) (rl' := 0) [.int (nI (c.2.1)), .int 8] [.ref 32] dX3_take_7 vX3_31 Y_J9_min_7cf53 rfl rfl (Nat.le_of_ble_eq_true rfl) (Nat.le_of_ble_eq_true rfl) (by decide) (by decide) c_min (fun _ _ e9 => ?_)
  cases e9
  rw [min8 w4]
  refine x_put (fs2 := [.ref 33, .ref 34, .int (nI (c.2.1)), .int bc, .int bs]) dX3_take_10 fX3_20 (Or.inl rfl) f32 (by decide) rfl rfl (Nat.le_of_ble_eq_true rfl) rfl (fun h101 a102 e103 l104 s105 => ?_)
  have f106 := (e103 ab (by omega)).trans fab
  have f107 := (e103 33 (by decide)).trans f33
  have f108 := (e103 34 (by decide)).trans f34
  have sm109 := Sm.put sm0 e103 l104 s105 (by decide)
  refine x_aload_n dX3_take_13 0 rfl ?_
  refine x_aload_n dX3_take_14 1 rfl ?_
  refine x_get (v := .int (nI (c.2.2.1))) dX3_take_15 fX3_37 f106 (by omega) rfl ?_
  refine x_bipush (v := 8) dX3_take_18 (by decide) ?_
  refine x_callS (rf' := 0) (rl' := 0) [.int (nI (c.2.2.1)), .int 8] [.ref 32] dX3_take_20 vX3_31 Y_J9_min_7cf53 rfl rfl (Nat.le_of_ble_eq_true rfl) (Nat.le_of_ble_eq_true rfl) (by decide) (by decide) c_min (fun _ _ e9 => ?_)
  cases e9
  rw [min8 w6]
  refine x_put (fs2 := [.ref 33, .ref 34, .int (nI (c.2.1)), .int (nI (c.2.2.1)), .int bs]) dX3_take_23 fX3_24 (Or.inl rfl) a102 (by decide) rfl rfl (Nat.le_of_ble_eq_true rfl) rfl (fun h110 a111 e112 l113 s114 => ?_)
  have f115 := (e112 ab (by omega)).trans f106
  have f116 := (e112 33 (by decide)).trans f107
  have f117 := (e112 34 (by decide)).trans f108
  have sm118 := Sm.put sm109 e112 l113 s114 (by decide)
  refine x_iconst (v := 0) dX3_take_26 (by decide) ?_
  refine x_istore_n (lv2 := [(3, .int 0), (0, .ref 32), (1, .ref ab), (2, .int mg)]) dX3_take_27 (by decide) rfl ?_
  refine x_perm (lv2 := [(3, .int (nI 0)), (0, .ref 32), (1, .ref ab), (2, .int mg)]) [0, 1, 2, 3] rfl ?_
  refine (l_take0 w4 w6 f115 (sm118.at fb2 (by simp; omega)) (sm118.at fb3 (by simp; omega)) hab hb2 hb3 (fun k hk => ⟨(hT k hk).1, (hT k hk).2.kept (fun u z hu hz => sm118.at hz (by simp; omega))⟩) (fun k hk => ⟨(hX k hk).1, (hX k hk).2.kept (fun u z hu hz => sm118.at hz (by simp; omega))⟩) a111 c.2.1 0 z1 z2 h110 rfl (by omega) Sm.rf f116 f117 (fun i hi => absurd hi (by omega))).weaken (fun o ho => ?_)
  obtain ⟨o1, o2, u1, u2, o3, o4, o5, o6⟩ := ho
  exact ⟨o1, (sm118.wide (by decide)).tr (o2.wide (by decide)), o2.at a111 (by decide), u1, u2, o3, o4, o5, o6⟩

theorem nI_inj0 {n : Nat} (h : n < 2 ^ 31) (e : nI n = 0) : n = 0 := by
  have := congrArg Int32.toInt e
  rw [nI_toInt h] at this
  have h2 : (0 : Int32).toInt = 0 := rfl
  omega
theorem boxes_end {h o : List PE} {rec : Nat → Int32} {c : Nat × Nat × Nat × Nat} {mg most bs : Int32} {v1 v2 : Nat → Int32} (hb : (¬ mg < 0 ∧ ¬ 2000 < mg) ∧ (¬ most < 1 ∧ ¬ 8 < most) ∧ ¬ nI c.2.1 = 0)
  (j32 : o[32]? = some (cO 3 [.ref 33, .ref 34, .int (nI (c.2.1)), .int (nI (c.2.2.1)), .int (if (bxR rec mg most c.2.1 c.2.2.1).1 = -1 then bs else nI (bxR rec mg most c.2.1 c.2.2.1).2)])) (j33 : o[33]? = some (cI 8 v1)) (j34 : o[34]? = some (cI 8 v2)) (sm : Sm [32, 33, 34] h o) :
  some (Value.int (bxR rec mg most c.2.1 c.2.2.1).1) = some (.int (spBx rec c mg most)) ∧ BxR o (spBs rec c mg most bs) ∧ Sm [32, 33, 34] h o := by
  have nb : ¬ bBx c mg most := fun q => q.elim (fun q => q.elim hb.1.1 hb.1.2) (fun q => q.elim (fun q => q.elim hb.2.1.1 hb.2.1.2) (fun q => hb.2.2 (by rw [q]; rfl)))
  refine ⟨by rw [spBx, if_neg nb], ?_, sm⟩
  have e : spBs rec c mg most bs = (if (bxR rec mg most c.2.1 c.2.2.1).1 = -1 then bs else nI (bxR rec mg most c.2.1 c.2.2.1).2) := by
    unfold spBs
    by_cases q : (bxR rec mg most c.2.1 c.2.2.1).1 = -1
    · rw [if_pos (Or.inr q), if_pos q]
    · rw [if_neg (fun z => z.elim nb q), if_neg q]
  rw [e]
  exact ⟨_, _, v1, v2, j32, j33, j34⟩

set_option maxRecDepth 100000 in
set_option maxHeartbeats 4000000 in
theorem c_boxes {G : GT} {h : List PE} {n td : Nat} {dy : Nat → Int32} {rc : Nat → Nat → Int32} {ct : Nat → Nat × Nat × Nat × Nat} {fk br t : Int32} {mg most bs : Int32} (hfa : FaR h n td fk br) (hbk : BkR h n dy rc ct) (hn : n ≤ 20) (W : WFk (curR n dy rc t) (curC n dy ct t)) (hbx : BxR h bs) : CT G mX11_boxes 3 73 [.ref 3, .int mg, .int most, .int t] h (fun o => o.1 = some (.int (spBx (curR n dy rc t) (curC n dy ct t) mg most)) ∧ BxR o.2 (spBs (curR n dy rc t) (curC n dy ct t) mg most bs) ∧ Sm [32, 33, 34] h o.2) := by
  obtain ⟨zb, bq, ab, day, f15, hd, hab, hB⟩ := hbk.cur t
  obtain ⟨hb0, b1, b2, b3, b4, fq, tq, bq2, dq, zf, zt, zb2, zd, ln, q1, q2, q3, q4, q5, r0, r1, r2, r3, r4, k1, k2, k3, k4⟩ := id hB
  have f3 : h[3]? = some (cO 11 [.ref 4, .ref 6, .ref 15, .ref 16, .ref 21, .ref 25, .ref 32, .ref 35, .int (nI n), .int (nI td), .int fk, .int br]) := hfa
  have w4 := W.2.2.2.1
  have w6 := W.2.2.2.2.2.1
  obtain ⟨tc, bc, z1, z2, f32, f33, f34⟩ := id hbx
  have sm0 : Sm [32, 33, 34] h h := Sm.rf
  show X (NF G) G mX11_boxes 3 73 0 [(0, .ref 3), (1, .int mg), (2, .int most), (3, .int t)] [] h _
  refine x_aload_n dX11_boxes_0 0 rfl ?_
  refine x_iload_n dX11_boxes_1 3 rfl ?_
  refine x_callV (rf' := 1) (rl' := 21) [.int t] [] dX11_boxes_2 vX11_95 Y_X11_asOf f3 (by decide) rfl rfl (Nat.le_of_ble_eq_true rfl) (Nat.le_of_ble_eq_true rfl) (by decide) (by decide) (c_asOf hfa f15 hn hd) (fun _ _ e1 => ?_)
  cases e1
  rw [hab]
  refine x_astore (lv2 := [(4, .ref ab), (0, .ref 3), (1, .int mg), (2, .int most), (3, .int t)]) dX11_boxes_5 (by decide) rfl ?_
  refine x_iload_n dX11_boxes_7 2 rfl ?_
  refine x_if_lt (tgt := 37) dX11_boxes_8 (by decide) (fun c_8 => ?_) (fun c_8 => ?_)
  · refine x_bipush (v := (-2)) dX11_boxes_37 (by decide) ?_
    exact x_iret dX11_boxes_39 rfl ⟨by rw [spBx, if_pos (Or.inl (Or.inl c_8))], by rw [spBs, if_pos (Or.inl (Or.inl (Or.inl c_8)))]; exact hbx, sm0⟩
  · refine x_iload_n dX11_boxes_11 2 rfl ?_
    refine x_sipush (v := 2000) dX11_boxes_12 (by decide) ?_
    refine x_icmp_gt (tgt := 37) dX11_boxes_15 (by decide) (fun c_15 => ?_) (fun c_15 => ?_)
    · refine x_bipush (v := (-2)) dX11_boxes_37 (by decide) ?_
      exact x_iret dX11_boxes_39 rfl ⟨by rw [spBx, if_pos (Or.inl (Or.inr c_15))], by rw [spBs, if_pos (Or.inl (Or.inl (Or.inr c_15)))]; exact hbx, sm0⟩
    · refine x_iload_n dX11_boxes_18 3 rfl ?_
      refine x_iconst (v := 1) dX11_boxes_19 (by decide) ?_
      refine x_icmp_lt (tgt := 37) dX11_boxes_20 (by decide) (fun c_20 => ?_) (fun c_20 => ?_)
      · refine x_bipush (v := (-2)) dX11_boxes_37 (by decide) ?_
        exact x_iret dX11_boxes_39 rfl ⟨by rw [spBx, if_pos (Or.inr (Or.inl (Or.inl c_20)))], by rw [spBs, if_pos (Or.inl (Or.inr (Or.inl (Or.inl c_20))))]; exact hbx, sm0⟩
      · refine x_iload_n dX11_boxes_23 3 rfl ?_
        refine x_bipush (v := 8) dX11_boxes_24 (by decide) ?_
        refine x_icmp_gt (tgt := 37) dX11_boxes_26 (by decide) (fun c_26 => ?_) (fun c_26 => ?_)
        · refine x_bipush (v := (-2)) dX11_boxes_37 (by decide) ?_
          exact x_iret dX11_boxes_39 rfl ⟨by rw [spBx, if_pos (Or.inr (Or.inl (Or.inr c_26)))], by rw [spBs, if_pos (Or.inl (Or.inr (Or.inl (Or.inr c_26))))]; exact hbx, sm0⟩
        · refine x_aload dX11_boxes_29 0 rfl ?_
          refine x_get (v := .int (nI ((curC n dy ct t).2.1))) dX11_boxes_31 fX11_102 r0 (by omega) rfl ?_
          refine x_if_ne (tgt := 40) dX11_boxes_34 (by decide) (fun c_34 => ?_) (fun c_34 => ?_)
          · refine x_aload_n dX11_boxes_40 1 rfl ?_
            refine x_get (v := .ref 32) dX11_boxes_41 fX11_51 f3 (by decide) rfl ?_
            refine x_aload dX11_boxes_44 0 rfl ?_
            refine x_iload_n dX11_boxes_46 2 rfl ?_
            refine x_callV (rf' := 2) (rl' := 47) [.ref ab, .int mg] [] dX11_boxes_47 vX11_219 Y_X3_take f32 (by decide) rfl rfl (Nat.le_of_ble_eq_true rfl) (Nat.le_of_ble_eq_true rfl) (by decide) (by decide) (c_takeC (c := (curC n dy ct t)) (rec := (curR n dy rc t)) w4 w6 r0 r2 r3 (by omega) (by omega) (by omega) k2 k3 f32 f33 f34) (fun r h1 e1 => ?_)
            obtain ⟨e0, sm1, g32, v1, v2, g33, g34, y1, y2⟩ := e1
            cases e0
            have g3 := sm1.at f3 (by decide)
            refine x_aload_n dX11_boxes_50 1 rfl ?_
            refine x_get (v := .ref 32) dX11_boxes_51 fX11_51 g3 (by decide) rfl ?_
            refine x_iload_n dX11_boxes_54 3 rfl ?_
            refine x_callV (rf' := 2) (rl' := 47) [.int most] [] dX11_boxes_55 vX11_223 Y_X3_choose g32 (by decide) rfl rfl (Nat.le_of_ble_eq_true rfl) (Nat.le_of_ble_eq_true rfl) (by decide) (by decide) (c_chooseB (rec := (curR n dy rc t)) (mg := mg) w4 w6 y1 y2 g32 g33 g34) (fun r h2 e1 => ?_)
            obtain ⟨e0, j32, sm2⟩ := e1
            cases e0
            exact x_iret dX11_boxes_58 rfl (boxes_end ⟨⟨c_8, c_15⟩, ⟨c_20, c_26⟩, c_34⟩ j32 (sm2.at g33 (by decide)) (sm2.at g34 (by decide)) (sm1.tr (sm2.wide (by decide))))
          · refine x_bipush (v := (-2)) dX11_boxes_37 (by decide) ?_
            exact x_iret dX11_boxes_39 rfl ⟨by rw [spBx, if_pos (Or.inr (Or.inr (nI_inj0 (by omega) c_34)))], by rw [spBs, if_pos (Or.inl (Or.inr (Or.inr (nI_inj0 (by omega) c_34))))]; exact hbx, sm0⟩

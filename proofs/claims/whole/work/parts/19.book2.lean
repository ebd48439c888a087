set_option maxRecDepth 100000 in
set_option maxHeartbeats 4000000 in
theorem c_foamAtS {G : GT} {h : List PE} {a b1 b2 b3 b4 n : Nat} {n1 n2 n3 ln dy : Int32} {z : Nat → Option Nat} {k q : Nat} (fa : h[a]? = some (cO 0 [.ref b1, .ref b2, .ref b3, .ref b4, .int (nI n), .int n1, .int n2, .int n3, .int ln, .int dy])) (fb : h[b1]? = some (cR 4 8 z)) (ha : 3 ≤ a) (hb : 3 ≤ b1) (hn : n ≤ 8) (hk : k < n) (hz : z k = some q) : CT G mX0_foamAt 0 0 [.ref a, .int (nI k)] h (fun o => o = (some (.ref q), h)) := by
  show X (NF G) G mX0_foamAt 0 0 0 [(0, .ref a), (1, .int (nI k))] [] h _
  refine x_iload_n dX0_foamAt_0 1 rfl ?_
  refine x_if_ltN (a := k) (by omega) (tgt := 18) dX0_foamAt_1 (by decide) ?_
  refine x_iload_n dX0_foamAt_4 1 rfl ?_
  refine x_aload_n dX0_foamAt_5 0 rfl ?_
  refine x_get (v := .int (nI n)) dX0_foamAt_6 fX0_33 fa ha rfl ?_
  refine x_icmp_geN (tgt := 18) (a := k) (b := n) (by omega) (by omega) dX0_foamAt_9 (by decide) (fun c_9 => absurd c_9 (by omega)) (fun c_9 => ?_)
  refine x_iload_n dX0_foamAt_12 1 rfl ?_
  refine x_bipush (v := 8) dX0_foamAt_13 (by decide) ?_
  refine x_icmp_ltN (tgt := 22) (a := k) (b := 8) (by omega) (by omega) dX0_foamAt_15 (by decide) (fun c_15 => ?_) (fun c_15 => absurd (by omega) c_15)
  refine x_aload_n dX0_foamAt_22 0 rfl ?_
  refine x_get (v := .ref b1) dX0_foamAt_23 fX0_11 fa ha rfl ?_
  refine x_iload_n dX0_foamAt_26 1 rfl ?_
  refine x_aaldN (i := k) (r := some q) rfl dX0_foamAt_27 fb hb (by omega) (by decide) hz ?_
  exact x_aret (r := (some q)) dX0_foamAt_28 rfl (Or.inl ⟨_, rfl⟩) rfl

set_option maxRecDepth 100000 in
set_option maxHeartbeats 4000000 in
theorem c_foamAtN0 {G : GT} {h : List PE} {a b1 b2 b3 b4 n : Nat} {n1 n2 n3 ln dy : Int32} {i : Int32} (fa : h[a]? = some (cO 0 [.ref b1, .ref b2, .ref b3, .ref b4, .int (nI n), .int n1, .int n2, .int n3, .int ln, .int dy])) (ha : 3 ≤ a) (hi : i < 0) : CT G mX0_foamAt 0 0 [.ref a, .int i] h (fun o => o = (some .null, h)) := by
  show X (NF G) G mX0_foamAt 0 0 0 [(0, .ref a), (1, .int i)] [] h _
  refine x_iload_n dX0_foamAt_0 1 rfl ?_
  refine x_if_lt (tgt := 18) dX0_foamAt_1 (by decide) (fun c_1 => ?_) (fun c_1 => absurd hi c_1)
  refine x_null dX0_foamAt_18 ?_
  refine x_goto (tgt := 28) dX0_foamAt_19 (by decide) ?_
  exact x_aret (r := none) dX0_foamAt_28 rfl (Or.inl ⟨_, rfl⟩) rfl

set_option maxRecDepth 100000 in
set_option maxHeartbeats 4000000 in
theorem c_foamAtN1 {G : GT} {h : List PE} {a b1 b2 b3 b4 n : Nat} {n1 n2 n3 ln dy : Int32} {i : Int32} (fa : h[a]? = some (cO 0 [.ref b1, .ref b2, .ref b3, .ref b4, .int (nI n), .int n1, .int n2, .int n3, .int ln, .int dy])) (ha : 3 ≤ a) (h0 : ¬ i < 0) (hi : nI n ≤ i) : CT G mX0_foamAt 0 0 [.ref a, .int i] h (fun o => o = (some .null, h)) := by
  show X (NF G) G mX0_foamAt 0 0 0 [(0, .ref a), (1, .int i)] [] h _
  refine x_iload_n dX0_foamAt_0 1 rfl ?_
  refine x_if_lt (tgt := 18) dX0_foamAt_1 (by decide) (fun c_1 => absurd c_1 h0) (fun c_1 => ?_)
  refine x_iload_n dX0_foamAt_4 1 rfl ?_
  refine x_aload_n dX0_foamAt_5 0 rfl ?_
  refine x_get (v := .int (nI n)) dX0_foamAt_6 fX0_33 fa ha rfl ?_
  refine x_icmp_ge (tgt := 18) dX0_foamAt_9 (by decide) (fun c_9 => ?_) (fun c_9 => absurd hi c_9)
  refine x_null dX0_foamAt_18 ?_
  refine x_goto (tgt := 28) dX0_foamAt_19 (by decide) ?_
  exact x_aret (r := none) dX0_foamAt_28 rfl (Or.inl ⟨_, rfl⟩) rfl

theorem c_foamAtN {G : GT} {h : List PE} {a b1 b2 b3 b4 n : Nat} {n1 n2 n3 ln dy : Int32} {i : Int32} (fa : h[a]? = some (cO 0 [.ref b1, .ref b2, .ref b3, .ref b4, .int (nI n), .int n1, .int n2, .int n3, .int ln, .int dy])) (ha : 3 ≤ a) (hi : i < 0 ∨ nI n ≤ i) : CT G mX0_foamAt 0 0 [.ref a, .int i] h (fun o => o = (some .null, h)) := by
  by_cases hj : i < 0
  · exact c_foamAtN0 fa ha hj
  · exact c_foamAtN1 fa ha hj (hi.resolve_left hj)

set_option maxRecDepth 100000 in
set_option maxHeartbeats 4000000 in
theorem c_thingAtS {G : GT} {h : List PE} {a b1 b2 b3 b4 n : Nat} {n0 n2 n3 ln dy : Int32} {z : Nat → Option Nat} {k q : Nat} (fa : h[a]? = some (cO 0 [.ref b1, .ref b2, .ref b3, .ref b4, .int n0, .int (nI n), .int n2, .int n3, .int ln, .int dy])) (fb : h[b2]? = some (cR 5 8 z)) (ha : 3 ≤ a) (hb : 3 ≤ b2) (hn : n ≤ 8) (hk : k < n) (hz : z k = some q) : CT G mX0_thingAt 0 0 [.ref a, .int (nI k)] h (fun o => o = (some (.ref q), h)) := by
  show X (NF G) G mX0_thingAt 0 0 0 [(0, .ref a), (1, .int (nI k))] [] h _
  refine x_iload_n dX0_thingAt_0 1 rfl ?_
  refine x_if_ltN (a := k) (by omega) (tgt := 18) dX0_thingAt_1 (by decide) ?_
  refine x_iload_n dX0_thingAt_4 1 rfl ?_
  refine x_aload_n dX0_thingAt_5 0 rfl ?_
  refine x_get (v := .int (nI n)) dX0_thingAt_6 fX0_37 fa ha rfl ?_
  refine x_icmp_geN (tgt := 18) (a := k) (b := n) (by omega) (by omega) dX0_thingAt_9 (by decide) (fun c_9 => absurd c_9 (by omega)) (fun c_9 => ?_)
  refine x_iload_n dX0_thingAt_12 1 rfl ?_
  refine x_bipush (v := 8) dX0_thingAt_13 (by decide) ?_
  refine x_icmp_ltN (tgt := 22) (a := k) (b := 8) (by omega) (by omega) dX0_thingAt_15 (by decide) (fun c_15 => ?_) (fun c_15 => absurd (by omega) c_15)
  refine x_aload_n dX0_thingAt_22 0 rfl ?_
  refine x_get (v := .ref b2) dX0_thingAt_23 fX0_17 fa ha rfl ?_
  refine x_iload_n dX0_thingAt_26 1 rfl ?_
  refine x_aaldN (i := k) (r := some q) rfl dX0_thingAt_27 fb hb (by omega) (by decide) hz ?_
  exact x_aret (r := (some q)) dX0_thingAt_28 rfl (Or.inl ⟨_, rfl⟩) rfl

set_option maxRecDepth 100000 in
set_option maxHeartbeats 4000000 in
theorem c_thingAtN0 {G : GT} {h : List PE} {a b1 b2 b3 b4 n : Nat} {n0 n2 n3 ln dy : Int32} {i : Int32} (fa : h[a]? = some (cO 0 [.ref b1, .ref b2, .ref b3, .ref b4, .int n0, .int (nI n), .int n2, .int n3, .int ln, .int dy])) (ha : 3 ≤ a) (hi : i < 0) : CT G mX0_thingAt 0 0 [.ref a, .int i] h (fun o => o = (some .null, h)) := by
  show X (NF G) G mX0_thingAt 0 0 0 [(0, .ref a), (1, .int i)] [] h _
  refine x_iload_n dX0_thingAt_0 1 rfl ?_
  refine x_if_lt (tgt := 18) dX0_thingAt_1 (by decide) (fun c_1 => ?_) (fun c_1 => absurd hi c_1)
  refine x_null dX0_thingAt_18 ?_
  refine x_goto (tgt := 28) dX0_thingAt_19 (by decide) ?_
  exact x_aret (r := none) dX0_thingAt_28 rfl (Or.inl ⟨_, rfl⟩) rfl

set_option maxRecDepth 100000 in
set_option maxHeartbeats 4000000 in
theorem c_thingAtN1 {G : GT} {h : List PE} {a b1 b2 b3 b4 n : Nat} {n0 n2 n3 ln dy : Int32} {i : Int32} (fa : h[a]? = some (cO 0 [.ref b1, .ref b2, .ref b3, .ref b4, .int n0, .int (nI n), .int n2, .int n3, .int ln, .int dy])) (ha : 3 ≤ a) (h0 : ¬ i < 0) (hi : nI n ≤ i) : CT G mX0_thingAt 0 0 [.ref a, .int i] h (fun o => o = (some .null, h)) := by
  show X (NF G) G mX0_thingAt 0 0 0 [(0, .ref a), (1, .int i)] [] h _
  refine x_iload_n dX0_thingAt_0 1 rfl ?_
  refine x_if_lt (tgt := 18) dX0_thingAt_1 (by decide) (fun c_1 => absurd c_1 h0) (fun c_1 => ?_)
  refine x_iload_n dX0_thingAt_4 1 rfl ?_
  refine x_aload_n dX0_thingAt_5 0 rfl ?_
  refine x_get (v := .int (nI n)) dX0_thingAt_6 fX0_37 fa ha rfl ?_
  refine x_icmp_ge (tgt := 18) dX0_thingAt_9 (by decide) (fun c_9 => ?_) (fun c_9 => absurd hi c_9)
  refine x_null dX0_thingAt_18 ?_
  refine x_goto (tgt := 28) dX0_thingAt_19 (by decide) ?_
  exact x_aret (r := none) dX0_thingAt_28 rfl (Or.inl ⟨_, rfl⟩) rfl

theorem c_thingAtN {G : GT} {h : List PE} {a b1 b2 b3 b4 n : Nat} {n0 n2 n3 ln dy : Int32} {i : Int32} (fa : h[a]? = some (cO 0 [.ref b1, .ref b2, .ref b3, .ref b4, .int n0, .int (nI n), .int n2, .int n3, .int ln, .int dy])) (ha : 3 ≤ a) (hi : i < 0 ∨ nI n ≤ i) : CT G mX0_thingAt 0 0 [.ref a, .int i] h (fun o => o = (some .null, h)) := by
  by_cases hj : i < 0
  · exact c_thingAtN0 fa ha hj
  · exact c_thingAtN1 fa ha hj (hi.resolve_left hj)

set_option maxRecDepth 100000 in
set_option maxHeartbeats 4000000 in
theorem c_boxAtS {G : GT} {h : List PE} {a b1 b2 b3 b4 n : Nat} {n0 n1 n3 ln dy : Int32} {z : Nat → Option Nat} {k q : Nat} (fa : h[a]? = some (cO 0 [.ref b1, .ref b2, .ref b3, .ref b4, .int n0, .int n1, .int (nI n), .int n3, .int ln, .int dy])) (fb : h[b3]? = some (cR 6 8 z)) (ha : 3 ≤ a) (hb : 3 ≤ b3) (hn : n ≤ 8) (hk : k < n) (hz : z k = some q) : CT G mX0_boxAt 0 0 [.ref a, .int (nI k)] h (fun o => o = (some (.ref q), h)) := by
  show X (NF G) G mX0_boxAt 0 0 0 [(0, .ref a), (1, .int (nI k))] [] h _
  refine x_iload_n dX0_boxAt_0 1 rfl ?_
  refine x_if_ltN (a := k) (by omega) (tgt := 18) dX0_boxAt_1 (by decide) ?_
  refine x_iload_n dX0_boxAt_4 1 rfl ?_
  refine x_aload_n dX0_boxAt_5 0 rfl ?_
  refine x_get (v := .int (nI n)) dX0_boxAt_6 fX0_40 fa ha rfl ?_
  refine x_icmp_geN (tgt := 18) (a := k) (b := n) (by omega) (by omega) dX0_boxAt_9 (by decide) (fun c_9 => absurd c_9 (by omega)) (fun c_9 => ?_)
  refine x_iload_n dX0_boxAt_12 1 rfl ?_
  refine x_bipush (v := 8) dX0_boxAt_13 (by decide) ?_
  refine x_icmp_ltN (tgt := 22) (a := k) (b := 8) (by omega) (by omega) dX0_boxAt_15 (by decide) (fun c_15 => ?_) (fun c_15 => absurd (by omega) c_15)
  refine x_aload_n dX0_boxAt_22 0 rfl ?_
  refine x_get (v := .ref b3) dX0_boxAt_23 fX0_23 fa ha rfl ?_
  refine x_iload_n dX0_boxAt_26 1 rfl ?_
  refine x_aaldN (i := k) (r := some q) rfl dX0_boxAt_27 fb hb (by omega) (by decide) hz ?_
  exact x_aret (r := (some q)) dX0_boxAt_28 rfl (Or.inl ⟨_, rfl⟩) rfl

set_option maxRecDepth 100000 in
set_option maxHeartbeats 4000000 in
theorem c_boxAtN0 {G : GT} {h : List PE} {a b1 b2 b3 b4 n : Nat} {n0 n1 n3 ln dy : Int32} {i : Int32} (fa : h[a]? = some (cO 0 [.ref b1, .ref b2, .ref b3, .ref b4, .int n0, .int n1, .int (nI n), .int n3, .int ln, .int dy])) (ha : 3 ≤ a) (hi : i < 0) : CT G mX0_boxAt 0 0 [.ref a, .int i] h (fun o => o = (some .null, h)) := by
  show X (NF G) G mX0_boxAt 0 0 0 [(0, .ref a), (1, .int i)] [] h _
  refine x_iload_n dX0_boxAt_0 1 rfl ?_
  refine x_if_lt (tgt := 18) dX0_boxAt_1 (by decide) (fun c_1 => ?_) (fun c_1 => absurd hi c_1)
  refine x_null dX0_boxAt_18 ?_
  refine x_goto (tgt := 28) dX0_boxAt_19 (by decide) ?_
  exact x_aret (r := none) dX0_boxAt_28 rfl (Or.inl ⟨_, rfl⟩) rfl

set_option maxRecDepth 100000 in
set_option maxHeartbeats 4000000 in
theorem c_boxAtN1 {G : GT} {h : List PE} {a b1 b2 b3 b4 n : Nat} {n0 n1 n3 ln dy : Int32} {i : Int32} (fa : h[a]? = some (cO 0 [.ref b1, .ref b2, .ref b3, .ref b4, .int n0, .int n1, .int (nI n), .int n3, .int ln, .int dy])) (ha : 3 ≤ a) (h0 : ¬ i < 0) (hi : nI n ≤ i) : CT G mX0_boxAt 0 0 [.ref a, .int i] h (fun o => o = (some .null, h)) := by
  show X (NF G) G mX0_boxAt 0 0 0 [(0, .ref a), (1, .int i)] [] h _
  refine x_iload_n dX0_boxAt_0 1 rfl ?_
  refine x_if_lt (tgt := 18) dX0_boxAt_1 (by decide) (fun c_1 => absurd c_1 h0) (fun c_1 => ?_)
  refine x_iload_n dX0_boxAt_4 1 rfl ?_
  refine x_aload_n dX0_boxAt_5 0 rfl ?_
  refine x_get (v := .int (nI n)) dX0_boxAt_6 fX0_40 fa ha rfl ?_
  refine x_icmp_ge (tgt := 18) dX0_boxAt_9 (by decide) (fun c_9 => ?_) (fun c_9 => absurd hi c_9)
  refine x_null dX0_boxAt_18 ?_
  refine x_goto (tgt := 28) dX0_boxAt_19 (by decide) ?_
  exact x_aret (r := none) dX0_boxAt_28 rfl (Or.inl ⟨_, rfl⟩) rfl

theorem c_boxAtN {G : GT} {h : List PE} {a b1 b2 b3 b4 n : Nat} {n0 n1 n3 ln dy : Int32} {i : Int32} (fa : h[a]? = some (cO 0 [.ref b1, .ref b2, .ref b3, .ref b4, .int n0, .int n1, .int (nI n), .int n3, .int ln, .int dy])) (ha : 3 ≤ a) (hi : i < 0 ∨ nI n ≤ i) : CT G mX0_boxAt 0 0 [.ref a, .int i] h (fun o => o = (some .null, h)) := by
  by_cases hj : i < 0
  · exact c_boxAtN0 fa ha hj
  · exact c_boxAtN1 fa ha hj (hi.resolve_left hj)

set_option maxRecDepth 100000 in
set_option maxHeartbeats 4000000 in
theorem c_dropAtS {G : GT} {h : List PE} {a b1 b2 b3 b4 n : Nat} {n0 n1 n2 ln dy : Int32} {z : Nat → Option Nat} {k q : Nat} (fa : h[a]? = some (cO 0 [.ref b1, .ref b2, .ref b3, .ref b4, .int n0, .int n1, .int n2, .int (nI n), .int ln, .int dy])) (fb : h[b4]? = some (cR 7 20 z)) (ha : 3 ≤ a) (hb : 3 ≤ b4) (hn : n ≤ 20) (hk : k < n) (hz : z k = some q) : CT G mX0_dropAt 0 0 [.ref a, .int (nI k)] h (fun o => o = (some (.ref q), h)) := by
  show X (NF G) G mX0_dropAt 0 0 0 [(0, .ref a), (1, .int (nI k))] [] h _
  refine x_iload_n dX0_dropAt_0 1 rfl ?_
  refine x_if_ltN (a := k) (by omega) (tgt := 18) dX0_dropAt_1 (by decide) ?_
  refine x_iload_n dX0_dropAt_4 1 rfl ?_
  refine x_aload_n dX0_dropAt_5 0 rfl ?_
  refine x_get (v := .int (nI n)) dX0_dropAt_6 fX0_43 fa ha rfl ?_
  refine x_icmp_geN (tgt := 18) (a := k) (b := n) (by omega) (by omega) dX0_dropAt_9 (by decide) (fun c_9 => absurd c_9 (by omega)) (fun c_9 => ?_)
  refine x_iload_n dX0_dropAt_12 1 rfl ?_
  refine x_bipush (v := 20) dX0_dropAt_13 (by decide) ?_
  refine x_icmp_ltN (tgt := 22) (a := k) (b := 20) (by omega) (by omega) dX0_dropAt_15 (by decide) (fun c_15 => ?_) (fun c_15 => absurd (by omega) c_15)
  refine x_aload_n dX0_dropAt_22 0 rfl ?_
  refine x_get (v := .ref b4) dX0_dropAt_23 fX0_29 fa ha rfl ?_
  refine x_iload_n dX0_dropAt_26 1 rfl ?_
  refine x_aaldN (i := k) (r := some q) rfl dX0_dropAt_27 fb hb (by omega) (by decide) hz ?_
  exact x_aret (r := (some q)) dX0_dropAt_28 rfl (Or.inl ⟨_, rfl⟩) rfl

set_option maxRecDepth 100000 in
set_option maxHeartbeats 4000000 in
theorem c_dropAtN0 {G : GT} {h : List PE} {a b1 b2 b3 b4 n : Nat} {n0 n1 n2 ln dy : Int32} {i : Int32} (fa : h[a]? = some (cO 0 [.ref b1, .ref b2, .ref b3, .ref b4, .int n0, .int n1, .int n2, .int (nI n), .int ln, .int dy])) (ha : 3 ≤ a) (hi : i < 0) : CT G mX0_dropAt 0 0 [.ref a, .int i] h (fun o => o = (some .null, h)) := by
  show X (NF G) G mX0_dropAt 0 0 0 [(0, .ref a), (1, .int i)] [] h _
  refine x_iload_n dX0_dropAt_0 1 rfl ?_
  refine x_if_lt (tgt := 18) dX0_dropAt_1 (by decide) (fun c_1 => ?_) (fun c_1 => absurd hi c_1)
  refine x_null dX0_dropAt_18 ?_
  refine x_goto (tgt := 28) dX0_dropAt_19 (by decide) ?_
  exact x_aret (r := none) dX0_dropAt_28 rfl (Or.inl ⟨_, rfl⟩) rfl

set_option maxRecDepth 100000 in
set_option maxHeartbeats 4000000 in
theorem c_dropAtN1 {G : GT} {h : List PE} {a b1 b2 b3 b4 n : Nat} {n0 n1 n2 ln dy : Int32} {i : Int32} (fa : h[a]? = some (cO 0 [.ref b1, .ref b2, .ref b3, .ref b4, .int n0, .int n1, .int n2, .int (nI n), .int ln, .int dy])) (ha : 3 ≤ a) (h0 : ¬ i < 0) (hi : nI n ≤ i) : CT G mX0_dropAt 0 0 [.ref a, .int i] h (fun o => o = (some .null, h)) := by
  show X (NF G) G mX0_dropAt 0 0 0 [(0, .ref a), (1, .int i)] [] h _
  refine x_iload_n dX0_dropAt_0 1 rfl ?_
  refine x_if_lt (tgt := 18) dX0_dropAt_1 (by decide) (fun c_1 => absurd c_1 h0) (fun c_1 => ?_)
  refine x_iload_n dX0_dropAt_4 1 rfl ?_
  refine x_aload_n dX0_dropAt_5 0 rfl ?_
  refine x_get (v := .int (nI n)) dX0_dropAt_6 fX0_43 fa ha rfl ?_
  refine x_icmp_ge (tgt := 18) dX0_dropAt_9 (by decide) (fun c_9 => ?_) (fun c_9 => absurd hi c_9)
  refine x_null dX0_dropAt_18 ?_
  refine x_goto (tgt := 28) dX0_dropAt_19 (by decide) ?_
  exact x_aret (r := none) dX0_dropAt_28 rfl (Or.inl ⟨_, rfl⟩) rfl

theorem c_dropAtN {G : GT} {h : List PE} {a b1 b2 b3 b4 n : Nat} {n0 n1 n2 ln dy : Int32} {i : Int32} (fa : h[a]? = some (cO 0 [.ref b1, .ref b2, .ref b3, .ref b4, .int n0, .int n1, .int n2, .int (nI n), .int ln, .int dy])) (ha : 3 ≤ a) (hi : i < 0 ∨ nI n ≤ i) : CT G mX0_dropAt 0 0 [.ref a, .int i] h (fun o => o = (some .null, h)) := by
  by_cases hj : i < 0
  · exact c_dropAtN0 fa ha hj
  · exact c_dropAtN1 fa ha hj (hi.resolve_left hj)

set_option maxRecDepth 100000 in
set_option maxHeartbeats 4000000 in
theorem l_layFoam {G : GT} {thick area : Int64} {kept : Int32} {a p q : Nat} {g1 g2 rec : Nat → Int32} {f np : Nat} {P U : Nat → Nat} {ke pr : Nat} {pu : Nat → Int32} {sv : Nat → Int64} (ha : 51 ≤ a) (hp : 51 ≤ p) (hq : 51 ≤ q) (WF : WFf rec f np P U ke pr) (hg : ∀ i, i < np → g1 i = rec (f + 3 + i) ∧ g2 i = rec (f + 11 + i)) : ∀ (m x : Nat) (fr : Nat → Int32) (h : List PE), P (np - 1) + 1 - x = m → x ≤ P (np - 1) + 1 → (∀ j, j < x → ∃ k, IsSeg P np j k ∧ fr j = puR rec f k j) → h[21]? = some (cO 4 [.ref 22, .ref 23, .ref 24, .int (lcI (P (np - 1) + 1)), .long thick, .long area, .int (rec (f + 1)), .int kept]) → h[22]? = some (cI 96 fr) → h[23]? = some (cI 96 pu) → h[24]? = some (cJ 96 sv) → h[a]? = some (cO 6 [.ref p, .ref q, .int (nI np), .int (rec (f + 1)), .int (rec (f + 2))]) → h[p]? = some (cI 8 g1) → h[q]? = some (cI 8 g2) → X (NF G) G mX4_layFoam 2 40 52 [(4, .int (nI x)), (0, .ref 21), (1, .ref a)] [] h (fun o => o.1 = none ∧ ∃ (fr2 pu2 : Nat → Int32) (sv2 : Nat → Int64), o.2[21]? = some (cO 4 [.ref 22, .ref 23, .ref 24, .int (lcI (P (np - 1) + 1)), .long thick, .long area, .int (rec (f + 1)), .int 100]) ∧ o.2[22]? = some (cI 96 fr2) ∧ o.2[23]? = some (cI 96 pu2) ∧ o.2[24]? = some (cJ 96 sv2) ∧ Sm [21, 22, 23, 24] h o.2 ∧ (∀ x, x < (P (np - 1) + 1) → ∃ k, IsSeg P np x k ∧ fr2 x = puR rec f k x) ∧ (∀ j, j < (P (np - 1) + 1) → pu2 j = fr2 j * 100 / 100) ∧ ∀ j, j < (P (np - 1) + 1) → sv2 j = stoF pu2 j) := by
  have w2 := WF.2.1
  have w3 := WF.2.2.1
  have w7 := WF.2.2.2.2.2.2.1
  intro m
  induction m using Nat.strongRecOn with
  | _ m ih =>
    intro x fr h hm hx hfr f21 f22 f23 f24 fa fp fq
    have sm0 : Sm [21, 22, 23, 24] h h := Sm.rf
    refine x_aload_n dX4_layFoam_52 2 rfl ?_
    refine x_ifnull dX4_layFoam_53 ?_
    refine x_iload dX4_layFoam_56 0 rfl ?_
    refine x_aload_n dX4_layFoam_58 1 rfl ?_
    refine x_get (v := .int (lcI (P (np - 1) + 1))) dX4_layFoam_59 fX4_22 f21 (by decide) rfl ?_
    refine x_icmp_gt (tgt := 84) dX4_layFoam_62 (by decide) (fun c_62 => ?_) (fun c_62 => ?_)
    · have c_62 : P (np - 1) + 1 ≤ x := (lcI_lt (by omega) (by omega)).mp c_62
      refine x_aload_n dX4_layFoam_84 1 rfl ?_
      refine x_bipush (v := 100) dX4_layFoam_85 (by decide) ?_
      refine x_callV (rf' := 0) (rl' := 0) [.int 100] [] dX4_layFoam_87 vX4_76 Y_X4_wearTo f21 (by decide) rfl rfl (Nat.le_of_ble_eq_true rfl) (Nat.le_of_ble_eq_true rfl) (by decide) (by decide) (c_wearTo f21 f22 f23 f24 (by omega)) (fun r h1 e1 => ?_)
      obtain ⟨e0, pu2, sv2, g21, g23, g24, g5, g6, g7⟩ := e1
      subst e0
      exact x_vret dX4_layFoam_90 rfl ⟨rfl, fr, pu2, sv2, g21, g5.at f22 (by decide), g23, g24, g5.wide (by intro y hy; simp at hy ⊢; omega), fun y hy => hfr y (by omega), g6, g7⟩
    · have c_62 : x ≤ P (np - 1) := by rw [lcI_lt (by omega) (by omega)] at c_62; omega
      refine x_aload_n dX4_layFoam_65 1 rfl ?_
      refine x_get (v := .ref 22) dX4_layFoam_66 fX4_11 f21 (by decide) rfl ?_
      refine x_iload dX4_layFoam_69 0 rfl ?_
      refine x_aload_n dX4_layFoam_71 2 rfl ?_
      refine x_iload dX4_layFoam_72 0 rfl ?_
      refine x_callV (rf' := 0) (rl' := 0) [.int (nI x)] [.int (nI x), .ref 22] dX4_layFoam_74 vX4_72 Y_X6_pushAt fa (by omega) rfl rfl (Nat.le_of_ble_eq_true rfl) (Nat.le_of_ble_eq_true rfl) (by decide) (by decide) (c_pushAt fa fp fq (by omega) (by omega) (by omega) WF hg (by omega)) (fun r h1 e1 => ?_)
      obtain ⟨r9, e2, e3, -⟩ := e1
      cases e2
      obtain ⟨k9, e4, e5⟩ := e3 (by omega)
      refine x_iastN (i := x) dX4_layFoam_77 f22 (by decide) (by omega) (by decide) (fun h1 a2 e3 l4 s5 => ?_)
      have f6 := (e3 21 (by decide)).trans f21
      have f7 := (e3 23 (by decide)).trans f23
      have f8 := (e3 24 (by decide)).trans f24
      have f9 := (e3 a (by omega)).trans fa
      have f10 := (e3 p (by omega)).trans fp
      have f11 := (e3 q (by omega)).trans fq
      have sm12 := Sm.put sm0 e3 l4 s5 (by decide)
      refine x_iincN (lv2 := [(4, .int (nI (x + 1))), (0, .ref 21), (1, .ref a)]) dX4_layFoam_78 0 rfl (by decide) rfl ?_
      refine x_goto (tgt := 52) dX4_layFoam_81 (by decide) ?_
      refine x_perm [0, 1, 2] rfl ?_
      refine (ih (P (np - 1) + 1 - (x + 1)) (by omega) (x + 1) (upd fr x r9) h1 rfl (by omega) ?_ f6 a2 f7 f8 f9 f10 f11).weaken (fun o ho => ?_)
      · intro j hj
        by_cases e : j = x
        · subst e; exact ⟨k9, e4, pk_us.trans e5⟩
        · rw [pk_un e]; exact hfr j (by omega)
      · obtain ⟨o1, fr2, pu2, sv2, o2, o3, o4, o5, o6, o7⟩ := ho
        exact ⟨o1, fr2, pu2, sv2, o2, o3, o4, o5, sm12.tr o6, o7⟩

set_option maxRecDepth 100000 in
set_option maxHeartbeats 4000000 in
theorem c_layFoam {G : GT} {h : List PE} {thick area : Int64} {keeps kept : Int32} {c : Nat} {a p q : Nat} {g1 g2 rec : Nat → Int32} {f np : Nat} {P U : Nat → Nat} {ke pr : Nat} {th ar : Int32} {fr pu : Nat → Int32} {sv : Nat → Int64} (f21 : h[21]? = some (cO 4 [.ref 22, .ref 23, .ref 24, .int (lcI c), .long thick, .long area, .int keeps, .int kept])) (f22 : h[22]? = some (cI 96 fr)) (f23 : h[23]? = some (cI 96 pu)) (f24 : h[24]? = some (cJ 96 sv)) (fa : h[a]? = some (cO 6 [.ref p, .ref q, .int (nI np), .int (rec (f + 1)), .int (rec (f + 2))])) (fp : h[p]? = some (cI 8 g1)) (fq : h[q]? = some (cI 8 g2)) (ha : 51 ≤ a) (hp : 51 ≤ p) (hq : 51 ≤ q) (WF : WFf rec f np P U ke pr) (hg : ∀ i, i < np → g1 i = rec (f + 3 + i) ∧ g2 i = rec (f + 11 + i)) : CT G mX4_layFoam 2 40 [.ref 21, .ref a, .int th, .int ar] h (fun o => o.1 = none ∧ ∃ (fr2 pu2 : Nat → Int32) (sv2 : Nat → Int64), o.2[21]? = some (cO 4 [.ref 22, .ref 23, .ref 24, .int (lcI (P (np - 1) + 1)), .long th.toInt64, .long ar.toInt64, .int (rec (f + 1)), .int 100]) ∧ o.2[22]? = some (cI 96 fr2) ∧ o.2[23]? = some (cI 96 pu2) ∧ o.2[24]? = some (cJ 96 sv2) ∧ Sm [21, 22, 23, 24] h o.2 ∧ (∀ x, x < (P (np - 1) + 1) → ∃ k, IsSeg P np x k ∧ fr2 x = puR rec f k x) ∧ (∀ j, j < (P (np - 1) + 1) → pu2 j = fr2 j * 100 / 100) ∧ ∀ j, j < (P (np - 1) + 1) → sv2 j = stoF pu2 j) := by
  have sm0 : Sm [21, 22, 23, 24] h h := Sm.rf
  have w2 := WF.2.1
  have w3 := WF.2.2.1
  have w7 := WF.2.2.2.2.2.2.1
  show X (NF G) G mX4_layFoam 2 40 0 [(0, .ref 21), (1, .ref a), (2, .int th), (3, .int ar)] [] h _
  refine x_aload_n dX4_layFoam_0 0 rfl ?_
  refine x_iload_n dX4_layFoam_1 2 rfl ?_
  refine x_i2l dX4_layFoam_2 ?_
  refine x_put (fs2 := [.ref 22, .ref 23, .ref 24, .int (lcI c), .long th.toInt64, .long area, .int keeps, .int kept]) dX4_layFoam_3 fX4_26 (Or.inl rfl) f21 (by decide) rfl rfl (Nat.le_of_ble_eq_true rfl) rfl (fun h1 a2 e3 l4 s5 => ?_)
  have f6 := (e3 22 (by decide)).trans f22
  have f7 := (e3 23 (by decide)).trans f23
  have f8 := (e3 24 (by decide)).trans f24
  have f9 := (e3 a (by omega)).trans fa
  have f10 := (e3 p (by omega)).trans fp
  have f11 := (e3 q (by omega)).trans fq
  have sm12 := Sm.put sm0 e3 l4 s5 (by decide)
  refine x_aload_n dX4_layFoam_6 0 rfl ?_
  refine x_iload_n dX4_layFoam_7 3 rfl ?_
  refine x_i2l dX4_layFoam_8 ?_
  refine x_put (fs2 := [.ref 22, .ref 23, .ref 24, .int (lcI c), .long th.toInt64, .long ar.toInt64, .int keeps, .int kept]) dX4_layFoam_9 fX4_30 (Or.inl rfl) a2 (by decide) rfl rfl (Nat.le_of_ble_eq_true rfl) rfl (fun h13 a14 e15 l16 s17 => ?_)
  have f18 := (e15 22 (by decide)).trans f6
  have f19 := (e15 23 (by decide)).trans f7
  have f20 := (e15 24 (by decide)).trans f8
  have f21 := (e15 a (by omega)).trans f9
  have f22 := (e15 p (by omega)).trans f10
  have f23 := (e15 q (by omega)).trans f11
  have sm24 := Sm.put sm12 e15 l16 s17 (by decide)
  refine x_aload_n dX4_layFoam_12 0 rfl ?_
  refine x_aload_n dX4_layFoam_13 1 rfl ?_
  refine x_ifnonnull (tgt := 21) dX4_layFoam_14 (by decide) ?_
  refine x_aload_n dX4_layFoam_21 1 rfl ?_
  refine x_get (v := .int (rec (f + 1))) dX4_layFoam_22 fX4_59 f21 (by omega) rfl ?_
  refine x_put (fs2 := [.ref 22, .ref 23, .ref 24, .int (lcI c), .long th.toInt64, .long ar.toInt64, .int (rec (f + 1)), .int kept]) dX4_layFoam_25 fX4_33 (Or.inl rfl) a14 (by decide) rfl rfl (Nat.le_of_ble_eq_true rfl) rfl (fun h25 a26 e27 l28 s29 => ?_)
  have f30 := (e27 22 (by decide)).trans f18
  have f31 := (e27 23 (by decide)).trans f19
  have f32 := (e27 24 (by decide)).trans f20
  have f33 := (e27 a (by omega)).trans f21
  have f34 := (e27 p (by omega)).trans f22
  have f35 := (e27 q (by omega)).trans f23
  have sm36 := Sm.put sm24 e27 l28 s29 (by decide)
  refine x_aload_n dX4_layFoam_28 0 rfl ?_
  refine x_aload_n dX4_layFoam_29 1 rfl ?_
  refine x_ifnonnull (tgt := 37) dX4_layFoam_30 (by decide) ?_
  refine x_aload_n dX4_layFoam_37 1 rfl ?_
  refine x_callV (rf' := 1) (rl' := 20) [] [.ref 21] dX4_layFoam_38 vX4_62 Y_X6_lastPercent f33 (by omega) rfl rfl (Nat.le_of_ble_eq_true rfl) (Nat.le_of_ble_eq_true rfl) (by decide) (by decide) (c_lastPercent f33 f34 (by omega) (by omega) w3 (by omega) ((hg (np - 1) (by omega)).1.trans (WF.2.2.2.1 (np - 1) (by omega)))) (fun _ _ e1 => ?_)
  cases e1
  refine x_bipush (v := 95) dX4_layFoam_41 (by decide) ?_
  refine x_callS (rf' := 0) (rl' := 0) [.int (nI (P (np - 1))), .int 95] [.ref 21] dX4_layFoam_43 vX4_66 Y_J9_min_7cf53 rfl rfl (Nat.le_of_ble_eq_true rfl) (Nat.le_of_ble_eq_true rfl) (by decide) (by decide) c_min (fun _ _ e1 => ?_)
  cases e1
  rw [if_neg (show ¬ (95 : Int32) < nI (P (np - 1)) from fun z => absurd ((nI_ltI (a := 95) (by decide) (by omega)).mp z) (by omega)), ← lcI_succ]
  refine x_put (fs2 := [.ref 22, .ref 23, .ref 24, .int (lcI (P (np - 1) + 1)), .long th.toInt64, .long ar.toInt64, .int (rec (f + 1)), .int kept]) dX4_layFoam_46 fX4_22 (Or.inl rfl) a26 (by decide) rfl rfl (Nat.le_of_ble_eq_true rfl) rfl (fun h37 a38 e39 l40 s41 => ?_)
  have f42 := (e39 22 (by decide)).trans f30
  have f43 := (e39 23 (by decide)).trans f31
  have f44 := (e39 24 (by decide)).trans f32
  have f45 := (e39 a (by omega)).trans f33
  have f46 := (e39 p (by omega)).trans f34
  have f47 := (e39 q (by omega)).trans f35
  have sm48 := Sm.put sm36 e39 l40 s41 (by decide)
  refine x_iconst (v := 0) dX4_layFoam_49 (by decide) ?_
  refine x_istore (lv2 := [(4, .int 0), (0, .ref 21), (1, .ref a), (2, .int th), (3, .int ar)]) dX4_layFoam_50 (by decide) rfl ?_
  refine x_perm [0, 1, 2] rfl ?_
  refine (l_layFoam ha hp hq WF hg (P (np - 1) + 1) 0 fr h37 rfl (by omega) (fun j hj => absurd hj (by omega)) a38 f42 f43 f44 f45 f46 f47).weaken (fun o ho => ?_)
  obtain ⟨o1, fr2, pu2, sv2, o2, o3, o4, o5, o6, o7⟩ := ho
  exact ⟨o1, fr2, pu2, sv2, o2, o3, o4, o5, sm48.tr o6, o7⟩

set_option maxRecDepth 100000 in
set_option maxHeartbeats 4000000 in
theorem c_layFoamN {G : GT} {h : List PE} {thick area : Int64} {keeps kept : Int32} {c : Nat} {th ar : Int32} {fr pu : Nat → Int32} {sv : Nat → Int64} (f21 : h[21]? = some (cO 4 [.ref 22, .ref 23, .ref 24, .int (lcI c), .long thick, .long area, .int keeps, .int kept])) (f22 : h[22]? = some (cI 96 fr)) (f23 : h[23]? = some (cI 96 pu)) (f24 : h[24]? = some (cJ 96 sv)) : CT G mX4_layFoam 2 40 [.ref 21, .null, .int th, .int ar] h (fun o => o.1 = none ∧ ∃ (fr2 pu2 : Nat → Int32) (sv2 : Nat → Int64), o.2[21]? = some (cO 4 [.ref 22, .ref 23, .ref 24, .int (lcI 0), .long th.toInt64, .long ar.toInt64, .int 0, .int 100]) ∧ o.2[22]? = some (cI 96 fr2) ∧ o.2[23]? = some (cI 96 pu2) ∧ o.2[24]? = some (cJ 96 sv2) ∧ Sm [21, 22, 23, 24] h o.2) := by
  have sm0 : Sm [21, 22, 23, 24] h h := Sm.rf
  show X (NF G) G mX4_layFoam 2 40 0 [(0, .ref 21), (1, .null), (2, .int th), (3, .int ar)] [] h _
  refine x_aload_n dX4_layFoam_0 0 rfl ?_
  refine x_iload_n dX4_layFoam_1 2 rfl ?_
  refine x_i2l dX4_layFoam_2 ?_
  refine x_put (fs2 := [.ref 22, .ref 23, .ref 24, .int (lcI c), .long th.toInt64, .long area, .int keeps, .int kept]) dX4_layFoam_3 fX4_26 (Or.inl rfl) f21 (by decide) rfl rfl (Nat.le_of_ble_eq_true rfl) rfl (fun h1 a2 e3 l4 s5 => ?_)
  have f6 := (e3 22 (by decide)).trans f22
  have f7 := (e3 23 (by decide)).trans f23
  have f8 := (e3 24 (by decide)).trans f24
  have sm9 := Sm.put sm0 e3 l4 s5 (by decide)
  refine x_aload_n dX4_layFoam_6 0 rfl ?_
  refine x_iload_n dX4_layFoam_7 3 rfl ?_
  refine x_i2l dX4_layFoam_8 ?_
  refine x_put (fs2 := [.ref 22, .ref 23, .ref 24, .int (lcI c), .long th.toInt64, .long ar.toInt64, .int keeps, .int kept]) dX4_layFoam_9 fX4_30 (Or.inl rfl) a2 (by decide) rfl rfl (Nat.le_of_ble_eq_true rfl) rfl (fun h10 a11 e12 l13 s14 => ?_)
  have f15 := (e12 22 (by decide)).trans f6
  have f16 := (e12 23 (by decide)).trans f7
  have f17 := (e12 24 (by decide)).trans f8
  have sm18 := Sm.put sm9 e12 l13 s14 (by decide)
  refine x_aload_n dX4_layFoam_12 0 rfl ?_
  refine x_aload_nN dX4_layFoam_13 1 rfl ?_
  refine x_ifnonnullN dX4_layFoam_14 ?_
  refine x_iconst (v := 0) dX4_layFoam_17 (by decide) ?_
  refine x_goto (tgt := 25) dX4_layFoam_18 (by decide) ?_
  refine x_put (fs2 := [.ref 22, .ref 23, .ref 24, .int (lcI c), .long th.toInt64, .long ar.toInt64, .int 0, .int kept]) dX4_layFoam_25 fX4_33 (Or.inl rfl) a11 (by decide) rfl rfl (Nat.le_of_ble_eq_true rfl) rfl (fun h19 a20 e21 l22 s23 => ?_)
  have f24 := (e21 22 (by decide)).trans f15
  have f25 := (e21 23 (by decide)).trans f16
  have f26 := (e21 24 (by decide)).trans f17
  have sm27 := Sm.put sm18 e21 l22 s23 (by decide)
  refine x_aload_n dX4_layFoam_28 0 rfl ?_
  refine x_aload_nN dX4_layFoam_29 1 rfl ?_
  refine x_ifnonnullN dX4_layFoam_30 ?_
  refine x_iconst (v := (-1)) dX4_layFoam_33 (by decide) ?_
  refine x_goto (tgt := 46) dX4_layFoam_34 (by decide) ?_
  rw [show (-1 : Int32) = lcI 0 from rfl]
  refine x_put (fs2 := [.ref 22, .ref 23, .ref 24, .int (lcI 0), .long th.toInt64, .long ar.toInt64, .int 0, .int kept]) dX4_layFoam_46 fX4_22 (Or.inl rfl) a20 (by decide) rfl rfl (Nat.le_of_ble_eq_true rfl) rfl (fun h28 a29 e30 l31 s32 => ?_)
  have f33 := (e30 22 (by decide)).trans f24
  have f34 := (e30 23 (by decide)).trans f25
  have f35 := (e30 24 (by decide)).trans f26
  have sm36 := Sm.put sm27 e30 l31 s32 (by decide)
  refine x_iconst (v := 0) dX4_layFoam_49 (by decide) ?_
  refine x_istore (lv2 := [(4, .int 0), (0, .ref 21), (1, .null), (2, .int th), (3, .int ar)]) dX4_layFoam_50 (by decide) rfl ?_
  refine x_aload_nN dX4_layFoam_52 2 rfl ?_
  refine x_ifnullN (tgt := 84) dX4_layFoam_53 (by decide) ?_
  refine x_aload_n dX4_layFoam_84 1 rfl ?_
  refine x_bipush (v := 100) dX4_layFoam_85 (by decide) ?_
  refine x_callV (rf' := 0) (rl' := 0) [.int 100] [] dX4_layFoam_87 vX4_76 Y_X4_wearTo a29 (by decide) rfl rfl (Nat.le_of_ble_eq_true rfl) (Nat.le_of_ble_eq_true rfl) (by decide) (by decide) (c_wearTo a29 f33 f34 f35 (by omega)) (fun r h1 e1 => ?_)
  obtain ⟨e0, pu2, sv2, g21, g23, g24, g5, g6, g7⟩ := e1
  subst e0
  exact x_vret dX4_layFoam_90 rfl ⟨rfl, fr, pu2, sv2, g21, g5.at f33 (by decide), g23, g24, sm36.tr (g5.wide (by intro y hy; simp at hy ⊢; omega))⟩

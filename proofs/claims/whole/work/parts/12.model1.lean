set_option maxRecDepth 100000 in
set_option maxHeartbeats 4000000 in
theorem c_isIn {G : GT} {h : List PE} {v a b : Int32} : CT G mX12_isIn 0 0 [.int v, .int a, .int b] h (fun o => o = (some (.int (if v < a ∨ b < v then 0 else 1)), h)) := by
  show X (NF G) G mX12_isIn 0 0 0 [(0, .int v), (1, .int a), (2, .int b)] [] h _
  refine x_iload_n dX12_isIn_0 0 rfl ?_
  refine x_iload_n dX12_isIn_1 1 rfl ?_
  refine x_icmp_lt (tgt := 14) dX12_isIn_2 (by decide) (fun c_2 => ?_) (fun c_2 => ?_)
  · refine x_iconst (v := 0) dX12_isIn_14 (by decide) ?_
    exact x_zret dX12_isIn_15 rfl rfl (by simp [c_2])
  · refine x_iload_n dX12_isIn_5 0 rfl ?_
    refine x_iload_n dX12_isIn_6 2 rfl ?_
    refine x_icmp_gt (tgt := 14) dX12_isIn_7 (by decide) (fun c_7 => ?_) (fun c_7 => ?_)
    · refine x_iconst (v := 0) dX12_isIn_14 (by decide) ?_
      exact x_zret dX12_isIn_15 rfl rfl (by simp [c_2, c_7])
    · refine x_iconst (v := 1) dX12_isIn_10 (by decide) ?_
      refine x_goto (tgt := 15) dX12_isIn_11 (by decide) ?_
      exact x_zret dX12_isIn_15 rfl rfl (by simp [c_2, c_7])

set_option maxRecDepth 100000 in
set_option maxHeartbeats 4000000 in
theorem c_at {G : GT} {h : List PE} {b : Nat} : CT G mX12_at 0 0 [.int (nI b)] h (fun o => o = (some (.int (nI (484 * b))), h)) := by
  show X (NF G) G mX12_at 0 0 0 [(0, .int (nI b))] [] h _
  refine x_sipush (v := 484) dX12_at_0 (by decide) ?_
  refine x_iload_n dX12_at_3 0 rfl ?_
  refine x_imulN (a := 484) (b := b) dX12_at_4 ?_
  exact x_iret dX12_at_5 rfl (by simp [])

set_option maxRecDepth 100000 in
set_option maxHeartbeats 4000000 in
theorem c_of {G : GT} {h : List PE} {thr tpd tdy bks siz too frm knd num sgn flt plc tld lst pfo thk are brk ipd bst : Int32} {wrd : Int64} {bk : Nat → Int32} {nw k : Nat} (f36 : h[36]? = some (cO 12 (MO thr tpd tdy bks siz too frm knd num sgn flt plc wrd tld ((nI nw)) lst pfo thk are brk ipd bst))) (f38 : h[38]? = some (cI 10164 bk)) (hk : nw + k < 10164) : CT G mX12_of 0 0 [.ref 36, .int (nI k)] h (fun o => o = (some (.int (bk (nw + k))), h)) := by
  show X (NF G) G mX12_of 0 0 0 [(0, .ref 36), (1, .int (nI k))] [] h _
  refine x_aload_n dX12_of_0 0 rfl ?_
  refine x_get (v := .ref 38) dX12_of_1 fX12_13 f36 (by decide) rfl ?_
  refine x_aload_n dX12_of_4 0 rfl ?_
  refine x_get (v := .int (nI nw)) dX12_of_5 fX12_211 f36 (by decide) rfl ?_
  refine x_iload_n dX12_of_8 1 rfl ?_
  refine x_iaddN (a := nw) (b := k) dX12_of_9 ?_
  refine x_ialdN (i := (nw + k)) dX12_of_10 f38 (by decide) (by omega) (by decide) ?_
  exact x_iret dX12_of_11 rfl (by simp [])

set_option maxRecDepth 100000 in
set_option maxHeartbeats 4000000 in
theorem c_weightOf {G : GT} {h : List PE} {thr tpd tdy bks siz too frm knd num sgn flt plc tld lst pfo thk are brk ipd bst : Int32} {wrd : Int64} {bk : Nat → Int32} {nw k : Nat} (f36 : h[36]? = some (cO 12 (MO thr tpd tdy bks siz too frm knd num sgn flt plc wrd tld ((nI nw)) lst pfo thk are brk ipd bst))) (f38 : h[38]? = some (cI 10164 bk)) (hk : nw + 484 ≤ 10164) (h8 : k < 8) : CT G mX12_weightOf 1 21 [.ref 36, .int (nI k)] h (fun o => o = (some (.int (bk (nw + (164 + 24 * k)))), h)) := by
  show X (NF G) G mX12_weightOf 1 21 0 [(0, .ref 36), (1, .int (nI k))] [] h _
  refine x_aload_n dX12_weightOf_0 0 rfl ?_
  refine x_sipush (v := 164) dX12_weightOf_1 (by decide) ?_
  refine x_bipush (v := 24) dX12_weightOf_4 (by decide) ?_
  refine x_iload_n dX12_weightOf_6 1 rfl ?_
  refine x_imulN (a := 24) (b := k) dX12_weightOf_7 ?_
  refine x_iaddN (a := 164) (b := (24 * k)) dX12_weightOf_8 ?_
  refine x_callV (rf' := 0) (rl' := 0) [.int (nI (164 + (24 * k)))] [] dX12_weightOf_9 vX12_217 Y_X12_of f36 (by decide) rfl rfl (Nat.le_of_ble_eq_true rfl) (Nat.le_of_ble_eq_true rfl) (by decide) (by decide) (c_of f36 f38 (by omega)) (fun _ _ e1 => ?_)
  cases e1
  exact x_iret dX12_weightOf_12 rfl rfl

set_option maxRecDepth 100000 in
set_option maxHeartbeats 4000000 in
theorem c_markOf {G : GT} {h : List PE} {thr tpd tdy bks siz too frm knd num sgn flt plc tld lst pfo thk are brk ipd bst : Int32} {wrd : Int64} {bk : Nat → Int32} {nw k : Nat} (f36 : h[36]? = some (cO 12 (MO thr tpd tdy bks siz too frm knd num sgn flt plc wrd tld ((nI nw)) lst pfo thk are brk ipd bst))) (f38 : h[38]? = some (cI 10164 bk)) (hk : nw + 484 ≤ 10164) (h8 : k < 8) : CT G mX12_markOf 1 21 [.ref 36, .int (nI k)] h (fun o => o = (some (.int (bk (nw + (164 + 24 * k + 4)))), h)) := by
  show X (NF G) G mX12_markOf 1 21 0 [(0, .ref 36), (1, .int (nI k))] [] h _
  refine x_aload_n dX12_markOf_0 0 rfl ?_
  refine x_sipush (v := 164) dX12_markOf_1 (by decide) ?_
  refine x_bipush (v := 24) dX12_markOf_4 (by decide) ?_
  refine x_iload_n dX12_markOf_6 1 rfl ?_
  refine x_imulN (a := 24) (b := k) dX12_markOf_7 ?_
  refine x_iaddN (a := 164) (b := (24 * k)) dX12_markOf_8 ?_
  refine x_iconst (v := 4) dX12_markOf_9 (by decide) ?_
  refine x_iaddN (a := (164 + (24 * k))) (b := 4) dX12_markOf_10 ?_
  refine x_callV (rf' := 0) (rl' := 0) [.int (nI ((164 + (24 * k)) + 4))] [] dX12_markOf_11 vX12_217 Y_X12_of f36 (by decide) rfl rfl (Nat.le_of_ble_eq_true rfl) (Nat.le_of_ble_eq_true rfl) (by decide) (by decide) (c_of f36 f38 (by omega)) (fun _ _ e1 => ?_)
  cases e1
  exact x_iret dX12_markOf_14 rfl rfl

set_option maxRecDepth 100000 in
set_option maxHeartbeats 4000000 in
theorem c_keepsOf {G : GT} {h : List PE} {thr tpd tdy bks siz too frm knd num sgn flt plc tld lst pfo thk are brk ipd bst : Int32} {wrd : Int64} {bk : Nat → Int32} {nw k : Nat} (f36 : h[36]? = some (cO 12 (MO thr tpd tdy bks siz too frm knd num sgn flt plc wrd tld ((nI nw)) lst pfo thk are brk ipd bst))) (f38 : h[38]? = some (cI 10164 bk)) (hk : nw + 484 ≤ 10164) (h8 : k < 8) : CT G mX12_keepsOf 1 21 [.ref 36, .int (nI k)] h (fun o => o = (some (.int (bk (nw + (4 + 20 * k + 1)))), h)) := by
  show X (NF G) G mX12_keepsOf 1 21 0 [(0, .ref 36), (1, .int (nI k))] [] h _
  refine x_aload_n dX12_keepsOf_0 0 rfl ?_
  refine x_iconst (v := 4) dX12_keepsOf_1 (by decide) ?_
  refine x_bipush (v := 20) dX12_keepsOf_2 (by decide) ?_
  refine x_iload_n dX12_keepsOf_4 1 rfl ?_
  refine x_imulN (a := 20) (b := k) dX12_keepsOf_5 ?_
  refine x_iaddN (a := 4) (b := (20 * k)) dX12_keepsOf_6 ?_
  refine x_iconst (v := 1) dX12_keepsOf_7 (by decide) ?_
  refine x_iaddN (a := (4 + (20 * k))) (b := 1) dX12_keepsOf_8 ?_
  refine x_callV (rf' := 0) (rl' := 0) [.int (nI ((4 + (20 * k)) + 1))] [] dX12_keepsOf_9 vX12_217 Y_X12_of f36 (by decide) rfl rfl (Nat.le_of_ble_eq_true rfl) (Nat.le_of_ble_eq_true rfl) (by decide) (by decide) (c_of f36 f38 (by omega)) (fun _ _ e1 => ?_)
  cases e1
  exact x_iret dX12_keepsOf_12 rfl rfl

set_option maxRecDepth 100000 in
set_option maxHeartbeats 4000000 in
theorem l_isBooked {G : GT} {thr tpd tdy siz too frm knd num sgn flt plc tld lst pfo thk are brk ipd bst : Int32} {wrd : Int64} {dy : Nat → Int32} {t : Int32} {n : Nat} (hn : n ≤ 20) : ∀ (m k : Nat) (h : List PE), n - k = m → k ≤ n → h[36]? = some (cO 12 (MO thr tpd tdy ((nI n)) siz too frm knd num sgn flt plc wrd tld ((nowOf (lastB dy t k))) lst pfo thk are brk ipd bst)) → h[39]? = some (cI 20 dy) → X (NF G) G mX12_isBooked 1 20 7 [(2, .int (nI k)), (0, .ref 36), (1, .int t)] [] h (fun o => o.1 = some (.int (if lastB dy t n = none then 0 else 1)) ∧ o.2[36]? = some (cO 12 (MO thr tpd tdy ((nI n)) siz too frm knd num sgn flt plc wrd tld ((nowOf (lastB dy t n))) lst pfo thk are brk ipd bst)) ∧ Sm [36] h o.2) := by
  intro m
  induction m using Nat.strongRecOn with
  | _ m ih =>
    intro k h hm hk f36 f39
    have sm0 : Sm [36] h h := Sm.rf
    refine x_iload_n dX12_isBooked_7 0 rfl ?_
    refine x_aload_n dX12_isBooked_8 1 rfl ?_
    refine x_get (v := .int (nI n)) dX12_isBooked_9 fX12_205 f36 (by decide) rfl ?_
    refine x_icmp_geN (tgt := 39) (a := k) (b := n) (by omega) (by omega) dX12_isBooked_12 (by decide) (fun c_12 => ?_) (fun c_12 => ?_)
    · refine x_aload_n dX12_isBooked_39 1 rfl ?_
      refine x_get (v := .int (nowOf (lastB dy t k))) dX12_isBooked_40 fX12_211 f36 (by decide) rfl ?_
      refine x_iconst (v := (-1)) dX12_isBooked_43 (by decide) ?_
      refine x_icmp_eq (tgt := 51) dX12_isBooked_44 (by decide) (fun c_44 => ?_) (fun c_44 => ?_)
      · refine x_iconst (v := 0) dX12_isBooked_51 (by decide) ?_
        exact x_zret dX12_isBooked_52 rfl rfl (by have e9 : k = n := (by omega); subst e9; exact ⟨by simp [← nowOf_none hn, c_44], f36, sm0⟩)
      · refine x_iconst (v := 1) dX12_isBooked_47 (by decide) ?_
        refine x_goto (tgt := 52) dX12_isBooked_48 (by decide) ?_
        exact x_zret dX12_isBooked_52 rfl rfl (by have e9 : k = n := (by omega); subst e9; exact ⟨by simp [← nowOf_none hn, c_44], f36, sm0⟩)
    · refine x_aload_n dX12_isBooked_15 1 rfl ?_
      refine x_get (v := .ref 39) dX12_isBooked_16 fX12_16 f36 (by decide) rfl ?_
      refine x_iload_n dX12_isBooked_19 0 rfl ?_
      refine x_ialdN (i := k) dX12_isBooked_20 f39 (by decide) (by omega) (by decide) ?_
      refine x_iload_n dX12_isBooked_21 2 rfl ?_
      refine x_icmp_gt (tgt := 33) dX12_isBooked_22 (by decide) (fun c_22 => ?_) (fun c_22 => ?_)
      · refine x_iincN (lv2 := [(2, .int (nI (k + 1))), (0, .ref 36), (1, .int t)]) dX12_isBooked_33 0 rfl (by decide) rfl ?_
        refine x_goto (tgt := 7) dX12_isBooked_36 (by decide) ?_
        have e9 : nowOf (lastB dy t (k + 1)) = nowOf (lastB dy t k) := by simp only [lastB]; rw [if_neg (Int32.not_le.mpr c_22)]
        exact (ih (n - (k + 1)) (by omega) (k + 1) h rfl (by omega) (by rw [e9]; exact f36) f39).weaken (fun o ho => ⟨ho.1, ho.2.1, sm0.tr ho.2.2⟩)
      · refine x_aload_n dX12_isBooked_25 1 rfl ?_
        refine x_iload_n dX12_isBooked_26 0 rfl ?_
        refine x_callS (rf' := 0) (rl' := 0) [.int (nI k)] [.ref 36] dX12_isBooked_27 vX12_154 Y_X12_at rfl rfl (Nat.le_of_ble_eq_true rfl) (Nat.le_of_ble_eq_true rfl) (by decide) (by decide) c_at (fun _ _ e1 => ?_)
        cases e1
        refine x_put (fs2 := (MO thr tpd tdy ((nI n)) siz too frm knd num sgn flt plc wrd tld ((nI (484 * k))) lst pfo thk are brk ipd bst)) dX12_isBooked_30 fX12_211 (Or.inl rfl) f36 (by decide) rfl rfl (Nat.le_of_ble_eq_true rfl) rfl (fun h2 a3 e4 l5 s6 => ?_)
        have f7 := (e4 39 (by decide)).trans f39
        have sm8 := Sm.put sm0 e4 l5 s6 (by decide)
        refine x_iincN (lv2 := [(2, .int (nI (k + 1))), (0, .ref 36), (1, .int t)]) dX12_isBooked_33 0 rfl (by decide) rfl ?_
        refine x_goto (tgt := 7) dX12_isBooked_36 (by decide) ?_
        have e9 : nowOf (lastB dy t (k + 1)) = nI (484 * k) := by simp only [lastB]; rw [if_pos (Int32.not_lt.mp c_22)]; rfl
        exact (ih (n - (k + 1)) (by omega) (k + 1) h2 rfl (by omega) (by rw [e9]; exact a3) f7).weaken (fun o ho => ⟨ho.1, ho.2.1, sm8.tr ho.2.2⟩)

set_option maxRecDepth 100000 in
set_option maxHeartbeats 4000000 in
theorem c_isBooked {G : GT} {h : List PE} {thr tpd tdy siz too frm knd num sgn flt plc tld now lst pfo thk are brk ipd bst : Int32} {wrd : Int64} {dy : Nat → Int32} {t : Int32} {n : Nat} (f36 : h[36]? = some (cO 12 (MO thr tpd tdy ((nI n)) siz too frm knd num sgn flt plc wrd tld now lst pfo thk are brk ipd bst))) (f39 : h[39]? = some (cI 20 dy)) (hn : n ≤ 20) : CT G mX12_isBooked 1 20 [.ref 36, .int t] h (fun o => o.1 = some (.int (if lastB dy t n = none then 0 else 1)) ∧ o.2[36]? = some (cO 12 (MO thr tpd tdy ((nI n)) siz too frm knd num sgn flt plc wrd tld ((nowOf (lastB dy t n))) lst pfo thk are brk ipd bst)) ∧ Sm [36] h o.2) := by
  have sm0 : Sm [36] h h := Sm.rf
  show X (NF G) G mX12_isBooked 1 20 0 [(0, .ref 36), (1, .int t)] [] h _
  refine x_aload_n dX12_isBooked_0 0 rfl ?_
  refine x_iconst (v := (-1)) dX12_isBooked_1 (by decide) ?_
  refine x_put (fs2 := (MO thr tpd tdy ((nI n)) siz too frm knd num sgn flt plc wrd tld ((-1)) lst pfo thk are brk ipd bst)) dX12_isBooked_2 fX12_211 (Or.inl rfl) f36 (by decide) rfl rfl (Nat.le_of_ble_eq_true rfl) rfl (fun h1 a2 e3 l4 s5 => ?_)
  have f6 := (e3 39 (by decide)).trans f39
  have sm7 := Sm.put sm0 e3 l4 s5 (by decide)
  refine x_iconst (v := 0) dX12_isBooked_5 (by decide) ?_
  refine x_istore_n (lv2 := [(2, .int 0), (0, .ref 36), (1, .int t)]) dX12_isBooked_6 (by decide) rfl ?_
  exact (l_isBooked hn n 0 h1 rfl (by omega) a2 f6).weaken (fun o ho => ⟨ho.1, ho.2.1, sm7.tr ho.2.2⟩)

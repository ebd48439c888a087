set_option maxRecDepth 100000 in
set_option maxHeartbeats 4000000 in
theorem c_byteAt {G : GT} {h : List PE} {m i : Int32} {f : Nat → Int32} (t4 : h[4]? = some (cO 8 [.ref 5, .int m])) (t5 : h[5]? = some (cB 640 f)) : CT G mX8_byteAt 0 0 [.ref 4, .int i] h (fun o => o = (some (.int (if i < 0 ∨ m ≤ i ∨ 640 ≤ i then -1 else f i.toNatClampNeg &&& 255)), h)) := by
  show X (NF G) G mX8_byteAt 0 0 0 [(0, .ref 4), (1, .int i)] [] h _
  refine x_iload_n dX8_byteAt_0 1 rfl ?_
  refine x_if_lt (tgt := 19) dX8_byteAt_1 (by decide) (fun c_1 => ?_) (fun c_1 => ?_)
  · refine x_iconst (v := (-1)) dX8_byteAt_19 (by decide) ?_
    refine x_goto (tgt := 33) dX8_byteAt_20 (by decide) ?_
    exact x_iret dX8_byteAt_33 rfl (by simp [c_1])
  · refine x_iload_n dX8_byteAt_4 1 rfl ?_
    refine x_aload_n dX8_byteAt_5 0 rfl ?_
    refine x_get (v := .int m) dX8_byteAt_6 fX8_15 t4 (by decide) rfl ?_
    refine x_icmp_ge (tgt := 19) dX8_byteAt_9 (by decide) (fun c_9 => ?_) (fun c_9 => ?_)
    · refine x_iconst (v := (-1)) dX8_byteAt_19 (by decide) ?_
      refine x_goto (tgt := 33) dX8_byteAt_20 (by decide) ?_
      exact x_iret dX8_byteAt_33 rfl (by simp [c_1, c_9])
    · refine x_iload_n dX8_byteAt_12 1 rfl ?_
      refine x_sipush (v := 640) dX8_byteAt_13 (by decide) ?_
      refine x_icmp_lt (tgt := 23) dX8_byteAt_16 (by decide) (fun c_16 => ?_) (fun c_16 => ?_)
      · refine x_aload_n dX8_byteAt_23 0 rfl ?_
        refine x_get (v := .ref 5) dX8_byteAt_24 fX8_11 t4 (by decide) rfl ?_
        refine x_iload_n dX8_byteAt_27 1 rfl ?_
        refine x_bald dX8_byteAt_28 t5 (by decide) (vin c_1 c_16 (by decide)) ?_
        refine x_sipush (v := 255) dX8_byteAt_29 (by decide) ?_
        refine x_iand dX8_byteAt_32 ?_
        exact x_iret dX8_byteAt_33 rfl (by simp [c_1, c_9, c_16])
      · refine x_iconst (v := (-1)) dX8_byteAt_19 (by decide) ?_
        refine x_goto (tgt := 33) dX8_byteAt_20 (by decide) ?_
        exact x_iret dX8_byteAt_33 rfl (by simp [c_1, c_9, c_16])

theorem c_byteL {G : GT} {h : List PE} {tn d : Nat} {tv : Nat → Nat} (hT : TpR h tn tv) (htn : tn ≤ 640) (hd : d < tn) : CT G mX8_byteAt 0 0 [.ref 4, .int (nI d)] h (fun o => o = (some (.int (nI (tv d))), h)) := by
  obtain ⟨tb, f4, f5, e5⟩ := hT
  refine (c_byteAt f4 f5).weaken (fun o ho => ?_)
  rw [ho, if_neg, nI_clamp (by omega), e5 d hd]
  rintro (q | q | q)
  · exact nI_pos (by omega) q
  · exact absurd ((nI_leI (by omega) (by omega)).mp q) (by omega)
  · exact absurd ((nI_leI (a := 640) (by decide) (by omega)).mp q) (by omega)
/-- the day on which it FALLS, m days left, the next one d -/
def dfF (bears load : Int32) (tv : Nat → Nat) : Nat → Nat → Int32
  | 0, _ => -1
  | m + 1, d => if load ≤ bears * nI (tv d) / 100 then dfF bears load tv m (d + 1) else nI d
def spStack (rec : Nat → Int32) (c : Nat × Nat × Nat × Nat) (bx n w : Int32) (tn : Nat) (tv : Nat → Nat) : Int32 := if (bx < 0 ∨ nI c.2.2.1 ≤ bx) ∨ (n < 1 ∨ 99 < n) ∨ (w < 0 ∨ 60000 < w) ∨ (tn < 1 ∨ 400 < tn) then -2 else dfF (rec (356 + 6 * bx.toNatClampNeg + 4)) ((n - 1) * w) tv tn 0

set_option maxRecDepth 100000 in
set_option maxHeartbeats 4000000 in
theorem l_dayOfFall {G : GT} {h : List PE} {n td : Nat} {fk br : Int32} (hfa : FaR h n td fk br) {tn : Nat} {tv : Nat → Nat} (hT : TpR h tn tv) (htn : tn ≤ 640) {bears load : Int32} : ∀ (m d : Nat), tn - d = m → d ≤ tn → X (NF G) G mX11_dayOfFall 1 21 2 [(3, .int (nI d)), (0, .ref 3), (1, .int bears), (2, .int load)] [] h (fun o => o = (some (.int (dfF bears load tv m d)), h)) := by
  have f3 : h[3]? = some (cO 11 [.ref 4, .ref 6, .ref 15, .ref 16, .ref 21, .ref 25, .ref 32, .ref 35, .int (nI n), .int (nI td), .int fk, .int br]) := hfa
  obtain ⟨tb, f4, f5, e5⟩ := id hT
  intro m
  induction m with
  | zero =>
    intro d hm hd
    refine x_iload_n dX11_dayOfFall_2 0 rfl ?_
    refine x_aload_n dX11_dayOfFall_3 1 rfl ?_
    refine x_get (v := .ref 4) dX11_dayOfFall_4 fX11_10 f3 (by decide) rfl ?_
    refine x_get (v := .int (nI tn)) dX11_dayOfFall_7 fX11_72 f4 (by decide) rfl ?_
    refine x_icmp_geN (tgt := 38) (a := d) (b := tn) (by omega) (by omega) dX11_dayOfFall_10 (by decide) (fun c_10 => ?_) (fun c_10 => absurd (by omega) c_10)
    refine x_iconst (v := (-1)) dX11_dayOfFall_38 (by decide) ?_
    exact x_iret dX11_dayOfFall_39 rfl rfl
  | succ m ih =>
    intro d hm hd
    refine x_iload_n dX11_dayOfFall_2 0 rfl ?_
    refine x_aload_n dX11_dayOfFall_3 1 rfl ?_
    refine x_get (v := .ref 4) dX11_dayOfFall_4 fX11_10 f3 (by decide) rfl ?_
    refine x_get (v := .int (nI tn)) dX11_dayOfFall_7 fX11_72 f4 (by decide) rfl ?_
    refine x_icmp_geN (tgt := 38) (a := d) (b := tn) (by omega) (by omega) dX11_dayOfFall_10 (by decide) (fun c_10 => absurd c_10 (by omega)) (fun c_10 => ?_)
    refine x_iload_n dX11_dayOfFall_13 3 rfl ?_
    refine x_iload_n dX11_dayOfFall_14 2 rfl ?_
    refine x_aload_n dX11_dayOfFall_15 1 rfl ?_
    refine x_get (v := .ref 4) dX11_dayOfFall_16 fX11_10 f3 (by decide) rfl ?_
    refine x_iload_n dX11_dayOfFall_19 0 rfl ?_
    refine x_callV (rf' := 0) (rl' := 0) [.int (nI d)] [.int bears, .int load] dX11_dayOfFall_20 vX11_176 Y_X8_byteAt f4 (by decide) rfl rfl (Nat.le_of_ble_eq_true rfl) (Nat.le_of_ble_eq_true rfl) (by decide) (by decide) (c_byteL hT htn (by omega)) (fun _ _ e1 => ?_)
    cases e1
    refine x_imul dX11_dayOfFall_23 ?_
    refine x_bipush (v := 100) dX11_dayOfFall_24 (by decide) ?_
    refine x_idiv dX11_dayOfFall_26 (by decide) ?_
    refine x_icmp_le (tgt := 32) dX11_dayOfFall_27 (by decide) (fun c_27 => ?_) (fun c_27 => ?_)
    · refine x_iincN (lv2 := [(3, .int (nI (d + 1))), (0, .ref 3), (1, .int bears), (2, .int load)]) dX11_dayOfFall_32 0 rfl (by decide) rfl ?_
      refine x_goto (tgt := 2) dX11_dayOfFall_35 (by decide) ?_
      refine x_perm [0, 1, 2, 3] rfl ?_
      exact (ih (d + 1) (by omega) (by omega)).weaken (fun o ho => by rw [ho, dfF, if_pos c_27])
    · refine x_iload_n dX11_dayOfFall_30 0 rfl ?_
      exact x_iret dX11_dayOfFall_31 rfl (by rw [dfF, if_neg c_27])

set_option maxRecDepth 100000 in
set_option maxHeartbeats 4000000 in
theorem c_dayOfFall {G : GT} {h : List PE} {n td : Nat} {fk br : Int32} (hfa : FaR h n td fk br) {tn : Nat} {tv : Nat → Nat} (hT : TpR h tn tv) (htn : tn ≤ 640) {bears load : Int32} : CT G mX11_dayOfFall 1 21 [.ref 3, .int bears, .int load] h (fun o => o = (some (.int (dfF bears load tv tn 0)), h)) := by
  have f3 : h[3]? = some (cO 11 [.ref 4, .ref 6, .ref 15, .ref 16, .ref 21, .ref 25, .ref 32, .ref 35, .int (nI n), .int (nI td), .int fk, .int br]) := hfa
  obtain ⟨tb, f4, f5, e5⟩ := id hT
  show X (NF G) G mX11_dayOfFall 1 21 0 [(0, .ref 3), (1, .int bears), (2, .int load)] [] h _
  refine x_iconst (v := 0) dX11_dayOfFall_0 (by decide) ?_
  refine x_istore_n (lv2 := [(3, .int 0), (0, .ref 3), (1, .int bears), (2, .int load)]) dX11_dayOfFall_1 (by decide) rfl ?_
  refine x_perm [0, 1, 2, 3] rfl ?_
  exact l_dayOfFall hfa hT htn tn 0 rfl (by omega)

set_option maxRecDepth 100000 in
set_option maxHeartbeats 4000000 in
theorem c_stackN {G : GT} {h : List PE} {n td : Nat} {dy : Nat → Int32} {rc : Nat → Nat → Int32} {ct : Nat → Nat × Nat × Nat × Nat} {fk br t : Int32} {bx nn ww : Int32} (hfa : FaR h n td fk br) (hbk : BkR h n dy rc ct) (hn : n ≤ 20) (W : WFk (curR n dy rc t) (curC n dy ct t)) {tn : Nat} {tv : Nat → Nat} (hT : TpR h tn tv) (htn : tn ≤ 640) (hs : bx < 0 ∨ nI (curC n dy ct t).2.2.1 ≤ bx) : CT G mX11_stack 2 44 [.ref 3, .int bx, .int nn, .int ww, .int t] h (fun o => o.1 = some (.int (spStack (curR n dy rc t) (curC n dy ct t) bx nn ww tn tv)) ∧ TpR o.2 0 tv ∧ Sm [4, 5] h o.2) := by
  obtain ⟨zb, bq, ab, day, f15, hd, hab, hB⟩ := hbk.cur t
  obtain ⟨hb0, b1, b2, b3, b4, fq, tq, bq2, dq, zf, zt, zb2, zd, ln, q1, q2, q3, q4, q5, r0, r1, r2, r3, r4, k1, k2, k3, k4⟩ := id hB
  have f3 : h[3]? = some (cO 11 [.ref 4, .ref 6, .ref 15, .ref 16, .ref 21, .ref 25, .ref 32, .ref 35, .int (nI n), .int (nI td), .int fk, .int br]) := hfa
  have w6 := W.2.2.2.2.2.1
  obtain ⟨tb, f4, f5, e5⟩ := id hT
  have sm0 : Sm [4, 5] h h := Sm.rf
  have sm4 : Sm [4] h h := Sm.rf
  show X (NF G) G mX11_stack 2 44 0 [(0, .ref 3), (1, .int bx), (2, .int nn), (3, .int ww), (4, .int t)] [] h _
  refine x_aload_n dX11_stack_0 0 rfl ?_
  refine x_iload dX11_stack_1 4 rfl ?_
  refine x_callV (rf' := 1) (rl' := 21) [.int t] [] dX11_stack_3 vX11_95 Y_X11_asOf f3 (by decide) rfl rfl (Nat.le_of_ble_eq_true rfl) (Nat.le_of_ble_eq_true rfl) (by decide) (by decide) (c_asOf hfa f15 hn hd) (fun _ _ e1 => ?_)
  cases e1
  rw [hab]
  refine x_iload_n dX11_stack_6 1 rfl ?_
  refine x_callV (rf' := 0) (rl' := 0) [.int bx] [] dX11_stack_7 vX11_190 Y_X0_boxAt r0 (by omega) rfl rfl (Nat.le_of_ble_eq_true rfl) (Nat.le_of_ble_eq_true rfl) (by decide) (by decide) (c_boxAtN r0 (by omega) hs) (fun _ _ e1 => ?_)
  cases e1
  refine x_astoreN (lv2 := [(5, .null), (0, .ref 3), (1, .int bx), (2, .int nn), (3, .int ww), (4, .int t)]) dX11_stack_10 (by decide) rfl ?_
  refine x_bipush (v := (-2)) dX11_stack_12 (by decide) ?_
  refine x_istore (lv2 := [(6, .int (-2)), (5, .null), (0, .ref 3), (1, .int bx), (2, .int nn), (3, .int ww), (4, .int t)]) dX11_stack_14 (by decide) rfl ?_
  refine x_aloadN dX11_stack_16 1 rfl ?_
  refine x_ifnullN (tgt := 82) dX11_stack_18 (by decide) ?_
  refine x_aload_n dX11_stack_82 2 rfl ?_
  refine x_get (v := .ref 4) dX11_stack_83 fX11_10 f3 (by decide) rfl ?_
  refine x_iconst (v := 0) dX11_stack_86 (by decide) ?_
  refine x_put (fs2 := [.ref 5, .int 0]) dX11_stack_87 fX11_72 (Or.inl rfl) f4 (by decide) rfl rfl (Nat.le_of_ble_eq_true rfl) rfl (fun h1 a2 e3 l4 s5 => ?_)
  have f6 := (e3 3 (by decide)).trans f3
  have f7 := (e3 ab (by omega)).trans r0
  have sm8 := Sm.put sm4 e3 l4 s5 (by decide)
  refine x_iload dX11_stack_90 0 rfl ?_
  exact x_iret dX11_stack_92 rfl ⟨by rw [spStack, if_pos (Or.inl hs)], ⟨tb, a2, sm8.at f5 (by decide), fun j hj => absurd hj (Nat.not_lt_zero j)⟩, sm8.wide (by decide)⟩

set_option maxRecDepth 100000 in
set_option maxHeartbeats 4000000 in
theorem c_stackS {G : GT} {h : List PE} {n td : Nat} {dy : Nat → Int32} {rc : Nat → Nat → Int32} {ct : Nat → Nat × Nat × Nat × Nat} {fk br t : Int32} {k : Nat} {nn ww : Int32} (hfa : FaR h n td fk br) (hbk : BkR h n dy rc ct) (hn : n ≤ 20) (W : WFk (curR n dy rc t) (curC n dy ct t)) {tn : Nat} {tv : Nat → Nat} (hT : TpR h tn tv) (htn : tn ≤ 640) (hk : k < (curC n dy ct t).2.2.1) : CT G mX11_stack 2 44 [.ref 3, .int (nI k), .int nn, .int ww, .int t] h (fun o => o.1 = some (.int (spStack (curR n dy rc t) (curC n dy ct t) (nI k) nn ww tn tv)) ∧ TpR o.2 0 tv ∧ Sm [4, 5] h o.2) := by
  obtain ⟨zb, bq, ab, day, f15, hd, hab, hB⟩ := hbk.cur t
  obtain ⟨hb0, b1, b2, b3, b4, fq, tq, bq2, dq, zf, zt, zb2, zd, ln, q1, q2, q3, q4, q5, r0, r1, r2, r3, r4, k1, k2, k3, k4⟩ := id hB
  have f3 : h[3]? = some (cO 11 [.ref 4, .ref 6, .ref 15, .ref 16, .ref 21, .ref 25, .ref 32, .ref 35, .int (nI n), .int (nI td), .int fk, .int br]) := hfa
  have w6 := W.2.2.2.2.2.1
  obtain ⟨tb, f4, f5, e5⟩ := id hT
  have sm0 : Sm [4, 5] h h := Sm.rf
  have sm4 : Sm [4] h h := Sm.rf
  have ck : (nI k).toNatClampNeg = k := nI_clamp (by omega)
  have nb : ¬ (nI k < 0 ∨ nI (curC n dy ct t).2.2.1 ≤ nI k) := fun q => q.elim (nI_pos (by omega)) (fun q => absurd ((nI_leI (by omega) (by omega)).mp q) (by omega))
  show X (NF G) G mX11_stack 2 44 0 [(0, .ref 3), (1, .int (nI k)), (2, .int nn), (3, .int ww), (4, .int t)] [] h _
  refine x_aload_n dX11_stack_0 0 rfl ?_
  refine x_iload dX11_stack_1 4 rfl ?_
  refine x_callV (rf' := 1) (rl' := 21) [.int t] [] dX11_stack_3 vX11_95 Y_X11_asOf f3 (by decide) rfl rfl (Nat.le_of_ble_eq_true rfl) (Nat.le_of_ble_eq_true rfl) (by decide) (by decide) (c_asOf hfa f15 hn hd) (fun _ _ e1 => ?_)
  cases e1
  rw [hab]
  refine x_iload_n dX11_stack_6 1 rfl ?_
  refine x_callV (rf' := 0) (rl' := 0) [.int (nI k)] [] dX11_stack_7 vX11_190 Y_X0_boxAt r0 (by omega) rfl rfl (Nat.le_of_ble_eq_true rfl) (Nat.le_of_ble_eq_true rfl) (by decide) (by decide) (c_boxAtS r0 r3 (by omega) (by omega) w6 hk (k3 k hk).1) (fun _ _ e1 => ?_)
  cases e1
  obtain ⟨hbx, p, z, hp, fb, fp, hz⟩ := (k3 k hk).2
  refine x_astore (lv2 := [(5, .ref (bq2 k)), (0, .ref 3), (1, .int (nI k)), (2, .int nn), (3, .int ww), (4, .int t)]) dX11_stack_10 (by decide) rfl ?_
  refine x_bipush (v := (-2)) dX11_stack_12 (by decide) ?_
  refine x_istore (lv2 := [(6, .int (-2)), (5, .ref (bq2 k)), (0, .ref 3), (1, .int (nI k)), (2, .int nn), (3, .int ww), (4, .int t)]) dX11_stack_14 (by decide) rfl ?_
  refine x_aload dX11_stack_16 1 rfl ?_
  refine x_ifnull dX11_stack_18 ?_
  refine x_iload_n dX11_stack_21 4 rfl ?_
  refine x_iconst (v := 1) dX11_stack_22 (by decide) ?_
  refine x_icmp_lt (tgt := 82) dX11_stack_23 (by decide) (fun c_23 => ?_) (fun c_23 => ?_)
  · refine x_aload_n dX11_stack_82 2 rfl ?_
    refine x_get (v := .ref 4) dX11_stack_83 fX11_10 f3 (by decide) rfl ?_
    refine x_iconst (v := 0) dX11_stack_86 (by decide) ?_
    refine x_put (fs2 := [.ref 5, .int 0]) dX11_stack_87 fX11_72 (Or.inl rfl) f4 (by decide) rfl rfl (Nat.le_of_ble_eq_true rfl) rfl (fun h1 a2 e3 l4 s5 => ?_)
    have f6 := (e3 3 (by decide)).trans f3
    have f7 := (e3 ab (by omega)).trans r0
    have f8 := (e3 (bq2 k) (by omega)).trans fb
    have sm9 := Sm.put sm4 e3 l4 s5 (by decide)
    refine x_iload dX11_stack_90 0 rfl ?_
    exact x_iret dX11_stack_92 rfl ⟨by rw [spStack, if_pos (Or.inr (Or.inl (Or.inl c_23)))], ⟨tb, a2, sm9.at f5 (by decide), fun j hj => absurd hj (Nat.not_lt_zero j)⟩, sm9.wide (by decide)⟩
  · refine x_iload_n dX11_stack_26 4 rfl ?_
    refine x_bipush (v := 99) dX11_stack_27 (by decide) ?_
    refine x_icmp_gt (tgt := 82) dX11_stack_29 (by decide) (fun c_29 => ?_) (fun c_29 => ?_)
    · refine x_aload_n dX11_stack_82 2 rfl ?_
      refine x_get (v := .ref 4) dX11_stack_83 fX11_10 f3 (by decide) rfl ?_
      refine x_iconst (v := 0) dX11_stack_86 (by decide) ?_
      refine x_put (fs2 := [.ref 5, .int 0]) dX11_stack_87 fX11_72 (Or.inl rfl) f4 (by decide) rfl rfl (Nat.le_of_ble_eq_true rfl) rfl (fun h10 a11 e12 l13 s14 => ?_)
      have f15 := (e12 3 (by decide)).trans f3
      have f16 := (e12 ab (by omega)).trans r0
      have f17 := (e12 (bq2 k) (by omega)).trans fb
      have sm18 := Sm.put sm4 e12 l13 s14 (by decide)
      refine x_iload dX11_stack_90 0 rfl ?_
      exact x_iret dX11_stack_92 rfl ⟨by rw [spStack, if_pos (Or.inr (Or.inl (Or.inr c_29)))], ⟨tb, a11, sm18.at f5 (by decide), fun j hj => absurd hj (Nat.not_lt_zero j)⟩, sm18.wide (by decide)⟩
    · refine x_iload_n dX11_stack_32 5 rfl ?_
      refine x_if_lt (tgt := 82) dX11_stack_33 (by decide) (fun c_33 => ?_) (fun c_33 => ?_)
      · refine x_aload_n dX11_stack_82 2 rfl ?_
        refine x_get (v := .ref 4) dX11_stack_83 fX11_10 f3 (by decide) rfl ?_
        refine x_iconst (v := 0) dX11_stack_86 (by decide) ?_
        refine x_put (fs2 := [.ref 5, .int 0]) dX11_stack_87 fX11_72 (Or.inl rfl) f4 (by decide) rfl rfl (Nat.le_of_ble_eq_true rfl) rfl (fun h19 a20 e21 l22 s23 => ?_)
        have f24 := (e21 3 (by decide)).trans f3
        have f25 := (e21 ab (by omega)).trans r0
        have f26 := (e21 (bq2 k) (by omega)).trans fb
        have sm27 := Sm.put sm4 e21 l22 s23 (by decide)
        refine x_iload dX11_stack_90 0 rfl ?_
        exact x_iret dX11_stack_92 rfl ⟨by rw [spStack, if_pos (Or.inr (Or.inr (Or.inl (Or.inl c_33))))], ⟨tb, a20, sm27.at f5 (by decide), fun j hj => absurd hj (Nat.not_lt_zero j)⟩, sm27.wide (by decide)⟩
      · refine x_iload_n dX11_stack_36 5 rfl ?_
        refine x_ldc (v := 60000) dX11_stack_37 kX11_228 ?_
        refine x_icmp_gt (tgt := 82) dX11_stack_39 (by decide) (fun c_39 => ?_) (fun c_39 => ?_)
        · refine x_aload_n dX11_stack_82 2 rfl ?_
          refine x_get (v := .ref 4) dX11_stack_83 fX11_10 f3 (by decide) rfl ?_
          refine x_iconst (v := 0) dX11_stack_86 (by decide) ?_
          refine x_put (fs2 := [.ref 5, .int 0]) dX11_stack_87 fX11_72 (Or.inl rfl) f4 (by decide) rfl rfl (Nat.le_of_ble_eq_true rfl) rfl (fun h28 a29 e30 l31 s32 => ?_)
          have f33 := (e30 3 (by decide)).trans f3
          have f34 := (e30 ab (by omega)).trans r0
          have f35 := (e30 (bq2 k) (by omega)).trans fb
          have sm36 := Sm.put sm4 e30 l31 s32 (by decide)
          refine x_iload dX11_stack_90 0 rfl ?_
          exact x_iret dX11_stack_92 rfl ⟨by rw [spStack, if_pos (Or.inr (Or.inr (Or.inl (Or.inr c_39))))], ⟨tb, a29, sm36.at f5 (by decide), fun j hj => absurd hj (Nat.not_lt_zero j)⟩, sm36.wide (by decide)⟩
        · refine x_aload_n dX11_stack_42 2 rfl ?_
          refine x_get (v := .ref 4) dX11_stack_43 fX11_10 f3 (by decide) rfl ?_
          refine x_get (v := .int (nI tn)) dX11_stack_46 fX11_72 f4 (by decide) rfl ?_
          refine x_iconst (v := 1) dX11_stack_49 (by decide) ?_
          refine x_icmp_ltN (tgt := 82) (a := tn) (b := 1) (by omega) (by omega) dX11_stack_50 (by decide) (fun c_50 => ?_) (fun c_50 => ?_)
          · refine x_aload_n dX11_stack_82 2 rfl ?_
            refine x_get (v := .ref 4) dX11_stack_83 fX11_10 f3 (by decide) rfl ?_
            refine x_iconst (v := 0) dX11_stack_86 (by decide) ?_
            refine x_put (fs2 := [.ref 5, .int 0]) dX11_stack_87 fX11_72 (Or.inl rfl) f4 (by decide) rfl rfl (Nat.le_of_ble_eq_true rfl) rfl (fun h37 a38 e39 l40 s41 => ?_)
            have f42 := (e39 3 (by decide)).trans f3
            have f43 := (e39 ab (by omega)).trans r0
            have f44 := (e39 (bq2 k) (by omega)).trans fb
            have sm45 := Sm.put sm4 e39 l40 s41 (by decide)
            refine x_iload dX11_stack_90 0 rfl ?_
            exact x_iret dX11_stack_92 rfl ⟨by rw [spStack, if_pos (Or.inr (Or.inr (Or.inr (Or.inl c_50))))], ⟨tb, a38, sm45.at f5 (by decide), fun j hj => absurd hj (Nat.not_lt_zero j)⟩, sm45.wide (by decide)⟩
          · refine x_aload_n dX11_stack_53 2 rfl ?_
            refine x_get (v := .ref 4) dX11_stack_54 fX11_10 f3 (by decide) rfl ?_
            refine x_get (v := .int (nI tn)) dX11_stack_57 fX11_72 f4 (by decide) rfl ?_
            refine x_sipush (v := 400) dX11_stack_60 (by decide) ?_
            refine x_icmp_gtN (tgt := 82) (a := tn) (b := 400) (by omega) (by omega) dX11_stack_63 (by decide) (fun c_63 => ?_) (fun c_63 => ?_)
            · refine x_aload_n dX11_stack_82 2 rfl ?_
              refine x_get (v := .ref 4) dX11_stack_83 fX11_10 f3 (by decide) rfl ?_
              refine x_iconst (v := 0) dX11_stack_86 (by decide) ?_
              refine x_put (fs2 := [.ref 5, .int 0]) dX11_stack_87 fX11_72 (Or.inl rfl) f4 (by decide) rfl rfl (Nat.le_of_ble_eq_true rfl) rfl (fun h46 a47 e48 l49 s50 => ?_)
              have f51 := (e48 3 (by decide)).trans f3
              have f52 := (e48 ab (by omega)).trans r0
              have f53 := (e48 (bq2 k) (by omega)).trans fb
              have sm54 := Sm.put sm4 e48 l49 s50 (by decide)
              refine x_iload dX11_stack_90 0 rfl ?_
              exact x_iret dX11_stack_92 rfl ⟨by rw [spStack, if_pos (Or.inr (Or.inr (Or.inr (Or.inr c_63))))], ⟨tb, a47, sm54.at f5 (by decide), fun j hj => absurd hj (Nat.not_lt_zero j)⟩, sm54.wide (by decide)⟩
            · refine x_aload_n dX11_stack_66 2 rfl ?_
              refine x_aload dX11_stack_67 1 rfl ?_
              refine x_get (v := .int ((curR n dy rc t) (356 + 6 * k + 4))) dX11_stack_69 fX11_229 fb (by omega) rfl ?_
              refine x_iload_n dX11_stack_72 4 rfl ?_
              refine x_iconst (v := 1) dX11_stack_73 (by decide) ?_
              refine x_isub dX11_stack_74 ?_
              refine x_iload_n dX11_stack_75 5 rfl ?_
              refine x_imul dX11_stack_76 ?_
              refine x_callV (rf' := 1) (rl' := 21) [.int ((curR n dy rc t) (356 + 6 * k + 4)), .int ((nn - 1) * ww)] [] dX11_stack_77 vX11_234 Y_X11_dayOfFall f3 (by decide) rfl rfl (Nat.le_of_ble_eq_true rfl) (Nat.le_of_ble_eq_true rfl) (by decide) (by decide) (c_dayOfFall hfa hT htn) (fun _ _ e1 => ?_)
              cases e1
              refine x_istore (lv2 := [(6, .int (dfF ((curR n dy rc t) (356 + 6 * k + 4)) ((nn - 1) * ww) tv tn 0)), (5, .ref (bq2 k)), (0, .ref 3), (1, .int (nI k)), (2, .int nn), (3, .int ww), (4, .int t)]) dX11_stack_80 (by decide) rfl ?_
              refine x_aload_n dX11_stack_82 2 rfl ?_
              refine x_get (v := .ref 4) dX11_stack_83 fX11_10 f3 (by decide) rfl ?_
              refine x_iconst (v := 0) dX11_stack_86 (by decide) ?_
              refine x_put (fs2 := [.ref 5, .int 0]) dX11_stack_87 fX11_72 (Or.inl rfl) f4 (by decide) rfl rfl (Nat.le_of_ble_eq_true rfl) rfl (fun h55 a56 e57 l58 s59 => ?_)
              have f60 := (e57 3 (by decide)).trans f3
              have f61 := (e57 ab (by omega)).trans r0
              have f62 := (e57 (bq2 k) (by omega)).trans fb
              have sm63 := Sm.put sm4 e57 l58 s59 (by decide)
              refine x_iload dX11_stack_90 0 rfl ?_
              exact x_iret dX11_stack_92 rfl ⟨by rw [spStack, if_neg (fun q => q.elim nb (fun q => q.elim (fun q => q.elim c_23 c_29) (fun q => q.elim (fun q => q.elim c_33 c_39) (fun q => q.elim c_50 c_63)))), ck], ⟨tb, a56, sm63.at f5 (by decide), fun j hj => absurd hj (Nat.not_lt_zero j)⟩, sm63.wide (by decide)⟩

theorem c_stack {G : GT} {h : List PE} {n td : Nat} {dy : Nat → Int32} {rc : Nat → Nat → Int32} {ct : Nat → Nat × Nat × Nat × Nat} {fk br t : Int32} {bx nn ww : Int32} (hfa : FaR h n td fk br) (hbk : BkR h n dy rc ct) (hn : n ≤ 20) (W : WFk (curR n dy rc t) (curC n dy ct t)) {tn : Nat} {tv : Nat → Nat} (hT : TpR h tn tv) (htn : tn ≤ 640) : CT G mX11_stack 2 44 [.ref 3, .int bx, .int nn, .int ww, .int t] h (fun o => o.1 = some (.int (spStack (curR n dy rc t) (curC n dy ct t) bx nn ww tn tv)) ∧ TpR o.2 0 tv ∧ Sm [4, 5] h o.2) := by
  by_cases h1 : bx < 0 ∨ nI (curC n dy ct t).2.2.1 ≤ bx
  · exact c_stackN hfa hbk hn W hT htn h1
  · obtain ⟨k, hk, rfl⟩ := ix_of (by have := W.2.2.2.2.2.1; omega) h1
    exact c_stackS hfa hbk hn W hT htn hk

set_option maxRecDepth 100000 in
set_option maxHeartbeats 4000000 in
theorem c_take {G : GT} {h : List PE} {thr tpd tdy bks siz too frm knd num sgn flt plc tld now lst pfo thk are brk ipd bst : Int32} {wrd : Int64} (f36 : h[36]? = some (cO 12 (MO thr tpd tdy bks siz too frm knd num sgn flt plc wrd tld now lst pfo thk are brk ipd bst))) : CT G mX12_take 0 0 [.ref 36] h (fun o => o.1 = some (.int tpd) ∧ o.2[36]? = some (cO 12 (MO thr 0 tdy bks siz too frm knd num sgn flt plc wrd tld now lst pfo thk are brk ipd bst)) ∧ Sm [36] h o.2) := by
  have sm0 : Sm [36] h h := Sm.rf
  show X (NF G) G mX12_take 0 0 0 [(0, .ref 36)] [] h _
  refine x_aload_n dX12_take_0 0 rfl ?_
  refine x_get (v := .int tpd) dX12_take_1 fX12_58 f36 (by decide) rfl ?_
  refine x_istore_n (lv2 := [(1, .int tpd), (0, .ref 36)]) dX12_take_4 (by decide) rfl ?_
  refine x_aload_n dX12_take_5 1 rfl ?_
  refine x_iconst (v := 0) dX12_take_6 (by decide) ?_
  refine x_put (fs2 := (MO thr 0 tdy bks siz too frm knd num sgn flt plc wrd tld now lst pfo thk are brk ipd bst)) dX12_take_7 fX12_58 (Or.inl rfl) f36 (by decide) rfl rfl (Nat.le_of_ble_eq_true rfl) rfl (fun h1 a2 e3 l4 s5 => ?_)
  have sm6 := Sm.put sm0 e3 l4 s5 (by decide)
  refine x_iload_n dX12_take_10 0 rfl ?_
  exact x_iret dX12_take_11 rfl ⟨rfl, a2, sm6⟩

set_option maxRecDepth 100000 in
set_option maxHeartbeats 4000000 in
theorem m_pushN {G : GT} {h : List PE} {s : ST} {t : Int32} {fo pct kt : Int32} (hM : MoR h s) (hW : WS s) (hs : fo < 0 ∨ nI (sC s t).1 ≤ fo) : CT G mX12_push 3 65 [.ref 36, .int fo, .int pct, .int kt, .int t] h (fun o => o.1 = some (.int (spPush (sR s t) (sC s t) fo pct kt)) ∧ MoR o.2 s ∧ Sm [36, 41, 42] h o.2) := by
  obtain ⟨thr, siz, too, frm, knd, num, sgn, plc, wrd, tld, now, lst, pfo, thk, are, ipd, mt, bk, dy, nm, cv, sv, k1, k2, k3, k4, k5, k6, k7, f36, f37, f38, f39, f40, f41, f42, f43, f44, f45, f46, f47, f48, f49, r1, r2, r3⟩ := hM
  have W := hW.cur t
  have hm : MB (s_n s) dy bk (s_dy s) (s_rc s) := ⟨hW.1, r2⟩
  have sm0 : Sm [36, 41, 42] h h := Sm.rf
  show X (NF G) G mX12_push 3 65 0 [(0, .ref 36), (1, .int fo), (2, .int pct), (3, .int kt), (4, .int t)] [] h _
  refine x_aload_n dX12_push_0 0 rfl ?_
  refine x_iconst (v := 0) dX12_push_1 (by decide) ?_
  refine x_put (fs2 := (MO 0 ((nI (s_tn s))) ((nI (s_td s))) ((nI (s_n s))) siz too frm knd num sgn ((s_fl s)) plc wrd tld now lst pfo thk are ((s_br s)) ipd ((s_bs s)))) dX12_push_2 fX12_55 (Or.inl rfl) f36 (by decide) rfl rfl (Nat.le_of_ble_eq_true rfl) rfl (fun h1 a2 e3 l4 s5 => ?_)
  have f6 := (e3 37 (by decide)).trans f37
  have f7 := (e3 38 (by decide)).trans f38
  have f8 := (e3 39 (by decide)).trans f39
  have f9 := (e3 41 (by decide)).trans f41
  have f10 := (e3 42 (by decide)).trans f42
  have sm11 := Sm.put sm0 e3 l4 s5 (by decide)
  refine x_aload_n dX12_push_5 0 rfl ?_
  refine x_iconst (v := 0) dX12_push_6 (by decide) ?_
  refine x_iload_n dX12_push_7 1 rfl ?_
  refine x_iload dX12_push_8 4 rfl ?_
  refine x_callV (rf' := 2) (rl' := 42) [.int 0, .int fo, .int t] [] dX12_push_10 vX12_223 Y_X12_has a2 (by decide) rfl rfl (Nat.le_of_ble_eq_true rfl) (Nat.le_of_ble_eq_true rfl) (by decide) (by decide) (c_has (q := 0) a2 f7 f8 hm W (by decide)) (fun r h12 e1 => ?_)
  obtain ⟨e0, g13, sm14⟩ := e1
  cases e0
  rw [show cQ (curC (s_n s) (s_dy s) (s_ct s) t) 0 = (sC s t).1 from rfl, if_pos hs]
  have f15 := sm14.at f6 (by decide)
  have f16 := sm14.at f7 (by decide)
  have f17 := sm14.at f8 (by decide)
  have f18 := sm14.at f9 (by decide)
  have f19 := sm14.at f10 (by decide)
  have sm20 := sm11.tr (sm14.wide (by decide))
  refine x_if_eq (tgt := 31) dX12_push_13 (by decide) (fun c_13 => ?_) (fun c_13 => absurd (by decide) c_13)
  refine x_iconst (v := (-1)) dX12_push_31 (by decide) ?_
  exact x_iret dX12_push_32 rfl ⟨by rw [spPush, if_pos (Or.inl hs)], (moR g13 (sm20.at f37 (by decide)) (sm20.at f38 (by decide)) (sm20.at f39 (by decide)) (sm20.at f40 (by decide)) f18 f19 (sm20.at f43 (by decide)) (sm20.at f44 (by decide)) (sm20.at f45 (by decide)) (sm20.at f46 (by decide)) (sm20.at f47 (by decide)) (sm20.at f48 (by decide)) (sm20.at f49 (by decide)) r1 r2 r3), sm20⟩

theorem curC_some0 {n : Nat} {sdy : Nat → Int32} {ct : Nat → Nat × Nat × Nat × Nat} {t : Int32} {k : Nat} (h : k < (curC n sdy ct t).1) : ∃ b, lastB sdy t n = some b := by
  unfold curC at h
  cases e : lastB sdy t n with
  | none => rw [e] at h; exact absurd h (Nat.not_lt_zero _)
  | some b => exact ⟨b, rfl⟩
theorem curC_some2 {n : Nat} {sdy : Nat → Int32} {ct : Nat → Nat × Nat × Nat × Nat} {t : Int32} {k : Nat} (h : k < (curC n sdy ct t).2.2.1) : ∃ b, lastB sdy t n = some b := by
  unfold curC at h
  cases e : lastB sdy t n with
  | none => rw [e] at h; exact absurd h (Nat.not_lt_zero _)
  | some b => exact ⟨b, rfl⟩

set_option maxRecDepth 100000 in
set_option maxHeartbeats 4000000 in
theorem m_pushS {G : GT} {h : List PE} {s : ST} {t : Int32} {k : Nat} {pct kt : Int32} (hM : MoR h s) (hW : WS s) (hk : k < (sC s t).1) (hk8 : k < 8) (hc8 : (sC s t).1 ≤ 8) : CT G mX12_push 3 65 [.ref 36, .int (nI k), .int pct, .int kt, .int t] h (fun o => o.1 = some (.int (spPush (sR s t) (sC s t) (nI k) pct kt)) ∧ MoR o.2 s ∧ Sm [36, 41, 42] h o.2) := by
  obtain ⟨thr, siz, too, frm, knd, num, sgn, plc, wrd, tld, now, lst, pfo, thk, are, ipd, mt, bk, dy, nm, cv, sv, k1, k2, k3, k4, k5, k6, k7, f36, f37, f38, f39, f40, f41, f42, f43, f44, f45, f46, f47, f48, f49, r1, r2, r3⟩ := hM
  have W := hW.cur t
  have hm : MB (s_n s) dy bk (s_dy s) (s_rc s) := ⟨hW.1, r2⟩
  obtain ⟨b, hlb⟩ := curC_some0 (n := s_n s) (sdy := s_dy s) (ct := s_ct s) (t := t) hk
  have RH : 484 * b + 484 ≤ 10164 ∧ ∀ j, j < 484 → bk (484 * b + j) = sR s t j := hm.rh hlb
  have ck : (nI k).toNatClampNeg = k := nI_clamp (by omega)
  have nb : ¬ (nI k < 0 ∨ nI (sC s t).1 ≤ nI k) := fun q => q.elim (nI_pos (by omega)) (fun q => absurd ((nI_leI (by omega) (by omega)).mp q) (by omega))
  have sm0 : Sm [36, 41, 42] h h := Sm.rf
  show X (NF G) G mX12_push 3 65 0 [(0, .ref 36), (1, .int (nI k)), (2, .int pct), (3, .int kt), (4, .int t)] [] h _
  refine x_aload_n dX12_push_0 0 rfl ?_
  refine x_iconst (v := 0) dX12_push_1 (by decide) ?_
  refine x_put (fs2 := (MO 0 ((nI (s_tn s))) ((nI (s_td s))) ((nI (s_n s))) siz too frm knd num sgn ((s_fl s)) plc wrd tld now lst pfo thk are ((s_br s)) ipd ((s_bs s)))) dX12_push_2 fX12_55 (Or.inl rfl) f36 (by decide) rfl rfl (Nat.le_of_ble_eq_true rfl) rfl (fun h1 a2 e3 l4 s5 => ?_)
  have f6 := (e3 37 (by decide)).trans f37
  have f7 := (e3 38 (by decide)).trans f38
  have f8 := (e3 39 (by decide)).trans f39
  have f9 := (e3 41 (by decide)).trans f41
  have f10 := (e3 42 (by decide)).trans f42
  have sm11 := Sm.put sm0 e3 l4 s5 (by decide)
  refine x_aload_n dX12_push_5 0 rfl ?_
  refine x_iconst (v := 0) dX12_push_6 (by decide) ?_
  refine x_iload_n dX12_push_7 1 rfl ?_
  refine x_iload dX12_push_8 4 rfl ?_
  refine x_callV (rf' := 2) (rl' := 42) [.int 0, .int (nI k), .int t] [] dX12_push_10 vX12_223 Y_X12_has a2 (by decide) rfl rfl (Nat.le_of_ble_eq_true rfl) (Nat.le_of_ble_eq_true rfl) (by decide) (by decide) (c_has (q := 0) a2 f7 f8 hm W (by decide)) (fun r h12 e1 => ?_)
  obtain ⟨e0, g13, sm14⟩ := e1
  cases e0
  rw [show cQ (curC (s_n s) (s_dy s) (s_ct s) t) 0 = (sC s t).1 from rfl, if_neg nb]
  rw [hlb] at g13
  have g13 : h12[36]? = some (cO 12 (MO 0 ((nI (s_tn s))) ((nI (s_td s))) ((nI (s_n s))) siz too frm knd num sgn ((s_fl s)) plc wrd tld ((nI (484 * b))) lst pfo thk are ((s_br s)) ipd ((s_bs s)))) := g13
  have f15 := sm14.at f6 (by decide)
  have f16 := sm14.at f7 (by decide)
  have f17 := sm14.at f8 (by decide)
  have f18 := sm14.at f9 (by decide)
  have f19 := sm14.at f10 (by decide)
  have sm20 := sm11.tr (sm14.wide (by decide))
  refine x_if_eq (tgt := 31) dX12_push_13 (by decide) (fun c_13 => absurd c_13 (by decide)) (fun c_13 => ?_)
  refine x_iload_n dX12_push_16 3 rfl ?_
  refine x_iconst (v := 0) dX12_push_17 (by decide) ?_
  refine x_sipush (v := 200) dX12_push_18 (by decide) ?_
  refine x_callS (rf' := 0) (rl' := 0) [.int kt, .int 0, .int 200] [] dX12_push_21 vX12_65 Y_X12_isIn rfl rfl (Nat.le_of_ble_eq_true rfl) (Nat.le_of_ble_eq_true rfl) (by decide) (by decide) c_isIn (fun _ _ e21 => ?_)
  cases e21
  by_cases hK : bK kt
  · rw [if_pos hK]
    refine x_if_eq (tgt := 31) dX12_push_24 (by decide) (fun c_24 => ?_) (fun c_24 => absurd (by decide) c_24)
    refine x_iconst (v := (-1)) dX12_push_31 (by decide) ?_
    exact x_iret dX12_push_32 rfl ⟨by rw [spPush, if_pos (Or.inr (Or.inl hK))], (moR g13 (sm20.at f37 (by decide)) (sm20.at f38 (by decide)) (sm20.at f39 (by decide)) (sm20.at f40 (by decide)) f18 f19 (sm20.at f43 (by decide)) (sm20.at f44 (by decide)) (sm20.at f45 (by decide)) (sm20.at f46 (by decide)) (sm20.at f47 (by decide)) (sm20.at f48 (by decide)) (sm20.at f49 (by decide)) r1 r2 r3), sm20⟩
  · rw [if_neg hK]
    refine x_if_eq (tgt := 31) dX12_push_24 (by decide) (fun c_24 => absurd c_24 (by decide)) (fun c_24 => ?_)
    refine x_iload_n dX12_push_27 2 rfl ?_
    refine x_if_ge (tgt := 33) dX12_push_28 (by decide) (fun c_28 => ?_) (fun c_28 => ?_)
    · refine x_aload_n dX12_push_33 0 rfl ?_
      refine x_iload_n dX12_push_34 1 rfl ?_
      refine x_iload_n dX12_push_35 3 rfl ?_
      obtain ⟨np, P, U, ke, pr, WF⟩ := W.2.2.2.2.2.2.2.2.1 k hk
      have WF := WF.canon
      refine x_callV (rf' := 1) (rl' := 21) [.int (nI k), .int kt] [] dX12_push_36 vX12_226 Y_X12_lay g13 (by decide) rfl rfl (Nat.le_of_ble_eq_true rfl) (Nat.le_of_ble_eq_true rfl) (by decide) (by decide) (c_layM (k := 0) (sd := 0) g13 f16 f18 f19 RH WF (by omega)) (fun r h22 e1 => ?_)
      obtain ⟨e0, ⟨cv2, sv2, g41, g42, ecv, esv⟩, g23, sm24⟩ := e1
      cases e0
      have sm26 := sm20.tr (sm24)
      obtain ⟨x, hx9, rfl⟩ := nI_of (Int32.not_lt.mpr c_28)
      have wl := WF.2.2.2.2.2.2.1
      refine x_iload_n dX12_push_39 2 rfl ?_
      refine x_aload_n dX12_push_40 0 rfl ?_
      refine x_get (v := .int (nI (PR (sR s t) (4 + 20 * k) (npR (sR s t) (4 + 20 * k) - 1)))) dX12_push_41 fX12_220 g23 (by decide) rfl ?_
      refine x_icmp_gtN (tgt := 56) (a := x) (b := (PR (sR s t) (4 + 20 * k) (npR (sR s t) (4 + 20 * k) - 1))) (by omega) (by omega) dX12_push_44 (by decide) (fun c_44 => ?_) (fun c_44 => ?_)
      · refine x_iconst (v := (-1)) dX12_push_56 (by decide) ?_
        exact x_iret dX12_push_57 rfl ⟨by rw [spPush, if_neg (fun q => q.elim nb (fun q => q.elim hK (fun q => Int32.not_lt.mpr c_28 q))), ck, if_pos ((nI_ltI (by omega) hx9).mpr c_44)], (moR g23 (sm26.at f37 (by decide)) (sm26.at f38 (by decide)) (sm26.at f39 (by decide)) (sm26.at f40 (by decide)) g41 g42 (sm26.at f43 (by decide)) (sm26.at f44 (by decide)) (sm26.at f45 (by decide)) (sm26.at f46 (by decide)) (sm26.at f47 (by decide)) (sm26.at f48 (by decide)) (sm26.at f49 (by decide)) r1 r2 r3), sm26⟩
      · refine x_aload_n dX12_push_47 0 rfl ?_
        refine x_get (v := .ref 41) dX12_push_48 fX12_23 g23 (by decide) rfl ?_
        refine x_iload_n dX12_push_51 2 rfl ?_
        refine x_ialdN (i := x) dX12_push_52 g41 (by decide) (by omega) (by decide) ?_
        refine x_goto (tgt := 57) dX12_push_53 (by decide) ?_
        exact x_iret dX12_push_57 rfl ⟨by rw [spPush, if_neg (fun q => q.elim nb (fun q => q.elim hK (fun q => Int32.not_lt.mpr c_28 q))), ck, if_neg (fun q => c_44 ((nI_ltI (by omega) hx9).mp q)), nI_clamp hx9, ecv x (Nat.lt_succ_of_le (Nat.not_lt.mp c_44))], (moR g23 (sm26.at f37 (by decide)) (sm26.at f38 (by decide)) (sm26.at f39 (by decide)) (sm26.at f40 (by decide)) g41 g42 (sm26.at f43 (by decide)) (sm26.at f44 (by decide)) (sm26.at f45 (by decide)) (sm26.at f46 (by decide)) (sm26.at f47 (by decide)) (sm26.at f48 (by decide)) (sm26.at f49 (by decide)) r1 r2 r3), sm26⟩
    · refine x_iconst (v := (-1)) dX12_push_31 (by decide) ?_
      exact x_iret dX12_push_32 rfl ⟨by rw [spPush, if_pos (Or.inr (Or.inr (Int32.not_le.mp c_28)))], (moR g13 (sm20.at f37 (by decide)) (sm20.at f38 (by decide)) (sm20.at f39 (by decide)) (sm20.at f40 (by decide)) f18 f19 (sm20.at f43 (by decide)) (sm20.at f44 (by decide)) (sm20.at f45 (by decide)) (sm20.at f46 (by decide)) (sm20.at f47 (by decide)) (sm20.at f48 (by decide)) (sm20.at f49 (by decide)) r1 r2 r3), sm20⟩

theorem m_push {G : GT} {h : List PE} {s : ST} {t : Int32} {fo pct kt : Int32} (hM : MoR h s) (hW : WS s) : CT G mX12_push 3 65 [.ref 36, .int fo, .int pct, .int kt, .int t] h (fun o => o.1 = some (.int (spPush (sR s t) (sC s t) fo pct kt)) ∧ MoR o.2 s ∧ Sm [36, 41, 42] h o.2) := by
  by_cases h1 : fo < 0 ∨ nI (sC s t).1 ≤ fo
  · exact m_pushN hM hW h1
  · have W := hW.cur t
    have w2 := W.2.1
    obtain ⟨k, hk, rfl⟩ := ix_of (by omega) h1
    exact m_pushS hM hW hk (by omega) w2

set_option maxRecDepth 100000 in
set_option maxHeartbeats 4000000 in
theorem m_stackN {G : GT} {h : List PE} {s : ST} {t : Int32} {bx nn ww : Int32} (hM : MoR h s) (hW : WS s) (hs : bx < 0 ∨ nI (sC s t).2.2.1 ≤ bx) : CT G mX12_stack 3 65 [.ref 36, .int bx, .int nn, .int ww, .int t] h (fun o => o.1 = some (.int (spStack (sR s t) (sC s t) bx nn ww (s_tn s) (s_tv s))) ∧ MoR o.2 (s_setTn s 0) ∧ Sm [36, 41, 42] h o.2) := by
  obtain ⟨thr, siz, too, frm, knd, num, sgn, plc, wrd, tld, now, lst, pfo, thk, are, ipd, mt, bk, dy, nm, cv, sv, k1, k2, k3, k4, k5, k6, k7, f36, f37, f38, f39, f40, f41, f42, f43, f44, f45, f46, f47, f48, f49, r1, r2, r3⟩ := hM
  have W := hW.cur t
  have hm : MB (s_n s) dy bk (s_dy s) (s_rc s) := ⟨hW.1, r2⟩
  have sm0 : Sm [36, 41, 42] h h := Sm.rf
  show X (NF G) G mX12_stack 3 65 0 [(0, .ref 36), (1, .int bx), (2, .int nn), (3, .int ww), (4, .int t)] [] h _
  refine x_aload_n dX12_stack_0 0 rfl ?_
  refine x_iconst (v := 0) dX12_stack_1 (by decide) ?_
  refine x_put (fs2 := (MO 0 ((nI (s_tn s))) ((nI (s_td s))) ((nI (s_n s))) siz too frm knd num sgn ((s_fl s)) plc wrd tld now lst pfo thk are ((s_br s)) ipd ((s_bs s)))) dX12_stack_2 fX12_55 (Or.inl rfl) f36 (by decide) rfl rfl (Nat.le_of_ble_eq_true rfl) rfl (fun h1 a2 e3 l4 s5 => ?_)
  have f6 := (e3 37 (by decide)).trans f37
  have f7 := (e3 38 (by decide)).trans f38
  have f8 := (e3 39 (by decide)).trans f39
  have f9 := (e3 41 (by decide)).trans f41
  have f10 := (e3 42 (by decide)).trans f42
  have sm11 := Sm.put sm0 e3 l4 s5 (by decide)
  refine x_aload_n dX12_stack_5 0 rfl ?_
  refine x_callV (rf' := 0) (rl' := 0) [] [] dX12_stack_6 vX12_201 Y_X12_take a2 (by decide) rfl rfl (Nat.le_of_ble_eq_true rfl) (Nat.le_of_ble_eq_true rfl) (by decide) (by decide) (c_take a2) (fun r h12 e1 => ?_)
  obtain ⟨e0, g13, sm14⟩ := e1
  cases e0
  have f15 := sm14.at f6 (by decide)
  have f16 := sm14.at f7 (by decide)
  have f17 := sm14.at f8 (by decide)
  have f18 := sm14.at f9 (by decide)
  have f19 := sm14.at f10 (by decide)
  have sm20 := sm11.tr (sm14.wide (by decide))
  refine x_istore (lv2 := [(5, .int (nI (s_tn s))), (0, .ref 36), (1, .int bx), (2, .int nn), (3, .int ww), (4, .int t)]) dX12_stack_9 (by decide) rfl ?_
  refine x_aload_n dX12_stack_11 1 rfl ?_
  refine x_iconst (v := 2) dX12_stack_12 (by decide) ?_
  refine x_iload_n dX12_stack_13 2 rfl ?_
  refine x_iload dX12_stack_14 5 rfl ?_
  refine x_callV (rf' := 2) (rl' := 42) [.int 2, .int bx, .int t] [] dX12_stack_16 vX12_223 Y_X12_has g13 (by decide) rfl rfl (Nat.le_of_ble_eq_true rfl) (Nat.le_of_ble_eq_true rfl) (by decide) (by decide) (c_has (q := 2) g13 f16 f17 hm W (by decide)) (fun r h21 e1 => ?_)
  obtain ⟨e0, g22, sm23⟩ := e1
  cases e0
  rw [show cQ (curC (s_n s) (s_dy s) (s_ct s) t) 2 = (sC s t).2.2.1 from rfl, if_pos hs]
  have f24 := sm23.at f15 (by decide)
  have f25 := sm23.at f16 (by decide)
  have f26 := sm23.at f17 (by decide)
  have f27 := sm23.at f18 (by decide)
  have f28 := sm23.at f19 (by decide)
  have sm29 := sm20.tr (sm23.wide (by decide))
  refine x_if_eq (tgt := 54) dX12_stack_19 (by decide) (fun c_19 => ?_) (fun c_19 => absurd (by decide) c_19)
  refine x_bipush (v := (-2)) dX12_stack_54 (by decide) ?_
  exact x_iret dX12_stack_56 rfl ⟨by rw [spStack, if_pos (Or.inl hs)], (moR (s := s_setTn s 0) g22 f24 f25 f26 (sm29.at f40 (by decide)) f27 f28 (sm29.at f43 (by decide)) (sm29.at f44 (by decide)) (sm29.at f45 (by decide)) (sm29.at f46 (by decide)) (sm29.at f47 (by decide)) (sm29.at f48 (by decide)) (sm29.at f49 (by decide)) (fun j hj => absurd hj (Nat.not_lt_zero j)) r2 r3), sm29⟩

set_option maxRecDepth 100000 in
set_option maxHeartbeats 4000000 in
theorem lm_stack {G : GT} {h : List PE} {s : ST} {t nn ww : Int32} {k b : Nat} {siz too frm knd num sgn plc : Int32} {wrd : Int64} {tld lst pfo thk are ipd : Int32} {mt bk : Nat → Int32} (f36 : h[36]? = some (cO 12 (MO 0 0 ((nI (s_td s))) ((nI (s_n s))) siz too frm knd num sgn ((s_fl s)) plc wrd tld ((nI (484 * b))) lst pfo thk are ((s_br s)) ipd ((s_bs s))))) (f37 : h[37]? = some (cI 640 mt)) (f38 : h[38]? = some (cI 10164 bk)) (RH : 484 * b + 484 ≤ 10164 ∧ ∀ j, j < 484 → bk (484 * b + j) = sR s t j) (hk : k < 8) (htn : s_tn s ≤ 640) (r1 : ∀ j, j < s_tn s → mt j = nI (s_tv s j)) : ∀ (m d : Nat), s_tn s - d = m → d ≤ s_tn s → X (NF G) G mX12_stack 3 65 60 [(6, .int (nI d)), (5, .int (nI (s_tn s))), (0, .ref 36), (1, .int (nI k)), (2, .int nn), (3, .int ww)] [] h (fun o => o = (some (.int (dfF ((sR s t) (356 + 6 * k + 4)) ((nn - 1) * ww) (s_tv s) m d)), h)) := by
  intro m
  induction m with
  | zero =>
    intro d hm hd
    refine x_iload dX12_stack_60 0 rfl ?_
    refine x_iload dX12_stack_62 1 rfl ?_
    refine x_icmp_geN (tgt := 109) (a := d) (b := (s_tn s)) (by omega) (by omega) dX12_stack_64 (by decide) (fun c_64 => ?_) (fun c_64 => absurd (by omega) c_64)
    refine x_iconst (v := (-1)) dX12_stack_109 (by decide) ?_
    exact x_iret dX12_stack_110 rfl rfl
  | succ m ih =>
    intro d hm hd
    refine x_iload dX12_stack_60 0 rfl ?_
    refine x_iload dX12_stack_62 1 rfl ?_
    refine x_icmp_geN (tgt := 109) (a := d) (b := (s_tn s)) (by omega) (by omega) dX12_stack_64 (by decide) (fun c_64 => absurd c_64 (by omega)) (fun c_64 => ?_)
    refine x_iload_n dX12_stack_67 4 rfl ?_
    refine x_iconst (v := 1) dX12_stack_68 (by decide) ?_
    refine x_isub dX12_stack_69 ?_
    refine x_iload_n dX12_stack_70 5 rfl ?_
    refine x_imul dX12_stack_71 ?_
    refine x_aload_n dX12_stack_72 2 rfl ?_
    refine x_sipush (v := 356) dX12_stack_73 (by decide) ?_
    refine x_bipush (v := 6) dX12_stack_76 (by decide) ?_
    refine x_iload_n dX12_stack_78 3 rfl ?_
    refine x_imulN (a := 6) (b := k) dX12_stack_79 ?_
    refine x_iaddN (a := 356) (b := (6 * k)) dX12_stack_80 ?_
    refine x_iconst (v := 4) dX12_stack_81 (by decide) ?_
    refine x_iaddN (a := (356 + (6 * k))) (b := 4) dX12_stack_82 ?_
    refine x_callV (rf' := 0) (rl' := 0) [.int (nI ((356 + (6 * k)) + 4))] [.int ((nn - 1) * ww)] dX12_stack_83 vX12_217 Y_X12_of f36 (by decide) rfl rfl (Nat.le_of_ble_eq_true rfl) (Nat.le_of_ble_eq_true rfl) (by decide) (by decide) (c_ofR f36 f38 RH (by omega)) (fun _ _ e5 => ?_)
    cases e5
    refine x_aload_n dX12_stack_86 2 rfl ?_
    refine x_get (v := .ref 37) dX12_stack_87 fX12_7 f36 (by decide) rfl ?_
    refine x_iload dX12_stack_90 0 rfl ?_
    refine x_ialdN (i := d) dX12_stack_92 f37 (by decide) (by omega) (by decide) ?_
    rw [r1 d (by omega)]
    refine x_imul dX12_stack_93 ?_
    refine x_bipush (v := 100) dX12_stack_94 (by decide) ?_
    refine x_idiv dX12_stack_96 (by decide) ?_
    refine x_icmp_le (tgt := 103) dX12_stack_97 (by decide) (fun c_97 => ?_) (fun c_97 => ?_)
    · refine x_iincN (lv2 := [(6, .int (nI (d + 1))), (5, .int (nI (s_tn s))), (0, .ref 36), (1, .int (nI k)), (2, .int nn), (3, .int ww)]) dX12_stack_103 0 rfl (by decide) rfl ?_
      refine x_goto (tgt := 60) dX12_stack_106 (by decide) ?_
      refine x_perm [0, 1, 2, 3, 4, 5] rfl ?_
      exact (ih (d + 1) (by omega) (by omega)).weaken (fun o ho => by rw [ho, dfF, if_pos c_97])
    · refine x_iload dX12_stack_100 0 rfl ?_
      exact x_iret dX12_stack_102 rfl (by rw [dfF, if_neg c_97])

set_option maxRecDepth 100000 in
set_option maxHeartbeats 4000000 in
theorem m_stackS {G : GT} {h : List PE} {s : ST} {t : Int32} {k : Nat} {nn ww : Int32} (hM : MoR h s) (hW : WS s) (hk : k < (sC s t).2.2.1) (hk8 : k < 8) (hc8 : (sC s t).2.2.1 ≤ 8) : CT G mX12_stack 3 65 [.ref 36, .int (nI k), .int nn, .int ww, .int t] h (fun o => o.1 = some (.int (spStack (sR s t) (sC s t) (nI k) nn ww (s_tn s) (s_tv s))) ∧ MoR o.2 (s_setTn s 0) ∧ Sm [36, 41, 42] h o.2) := by
  obtain ⟨thr, siz, too, frm, knd, num, sgn, plc, wrd, tld, now, lst, pfo, thk, are, ipd, mt, bk, dy, nm, cv, sv, k1, k2, k3, k4, k5, k6, k7, f36, f37, f38, f39, f40, f41, f42, f43, f44, f45, f46, f47, f48, f49, r1, r2, r3⟩ := hM
  have W := hW.cur t
  have hm : MB (s_n s) dy bk (s_dy s) (s_rc s) := ⟨hW.1, r2⟩
  obtain ⟨b, hlb⟩ := curC_some2 (n := s_n s) (sdy := s_dy s) (ct := s_ct s) (t := t) hk
  have RH : 484 * b + 484 ≤ 10164 ∧ ∀ j, j < 484 → bk (484 * b + j) = sR s t j := hm.rh hlb
  have ck : (nI k).toNatClampNeg = k := nI_clamp (by omega)
  have nb : ¬ (nI k < 0 ∨ nI (sC s t).2.2.1 ≤ nI k) := fun q => q.elim (nI_pos (by omega)) (fun q => absurd ((nI_leI (by omega) (by omega)).mp q) (by omega))
  have sm0 : Sm [36, 41, 42] h h := Sm.rf
  have htn := hW.2.2.1
  have hlen : (nI (s_tn s) < 1 ∨ (400 : Int32) < nI (s_tn s)) ↔ (s_tn s < 1 ∨ 400 < s_tn s) := or_congr (nI_ltI (b := 1) (by omega) (by decide)) (nI_ltI (a := 400) (by decide) (by omega))
  show X (NF G) G mX12_stack 3 65 0 [(0, .ref 36), (1, .int (nI k)), (2, .int nn), (3, .int ww), (4, .int t)] [] h _
  refine x_aload_n dX12_stack_0 0 rfl ?_
  refine x_iconst (v := 0) dX12_stack_1 (by decide) ?_
  refine x_put (fs2 := (MO 0 ((nI (s_tn s))) ((nI (s_td s))) ((nI (s_n s))) siz too frm knd num sgn ((s_fl s)) plc wrd tld now lst pfo thk are ((s_br s)) ipd ((s_bs s)))) dX12_stack_2 fX12_55 (Or.inl rfl) f36 (by decide) rfl rfl (Nat.le_of_ble_eq_true rfl) rfl (fun h1 a2 e3 l4 s5 => ?_)
  have f6 := (e3 37 (by decide)).trans f37
  have f7 := (e3 38 (by decide)).trans f38
  have f8 := (e3 39 (by decide)).trans f39
  have f9 := (e3 41 (by decide)).trans f41
  have f10 := (e3 42 (by decide)).trans f42
  have sm11 := Sm.put sm0 e3 l4 s5 (by decide)
  refine x_aload_n dX12_stack_5 0 rfl ?_
  refine x_callV (rf' := 0) (rl' := 0) [] [] dX12_stack_6 vX12_201 Y_X12_take a2 (by decide) rfl rfl (Nat.le_of_ble_eq_true rfl) (Nat.le_of_ble_eq_true rfl) (by decide) (by decide) (c_take a2) (fun r h12 e1 => ?_)
  obtain ⟨e0, g13, sm14⟩ := e1
  cases e0
  have f15 := sm14.at f6 (by decide)
  have f16 := sm14.at f7 (by decide)
  have f17 := sm14.at f8 (by decide)
  have f18 := sm14.at f9 (by decide)
  have f19 := sm14.at f10 (by decide)
  have sm20 := sm11.tr (sm14.wide (by decide))
  refine x_istore (lv2 := [(5, .int (nI (s_tn s))), (0, .ref 36), (1, .int (nI k)), (2, .int nn), (3, .int ww), (4, .int t)]) dX12_stack_9 (by decide) rfl ?_
  refine x_aload_n dX12_stack_11 1 rfl ?_
  refine x_iconst (v := 2) dX12_stack_12 (by decide) ?_
  refine x_iload_n dX12_stack_13 2 rfl ?_
  refine x_iload dX12_stack_14 5 rfl ?_
  refine x_callV (rf' := 2) (rl' := 42) [.int 2, .int (nI k), .int t] [] dX12_stack_16 vX12_223 Y_X12_has g13 (by decide) rfl rfl (Nat.le_of_ble_eq_true rfl) (Nat.le_of_ble_eq_true rfl) (by decide) (by decide) (c_has (q := 2) g13 f16 f17 hm W (by decide)) (fun r h21 e1 => ?_)
  obtain ⟨e0, g22, sm23⟩ := e1
  cases e0
  rw [show cQ (curC (s_n s) (s_dy s) (s_ct s) t) 2 = (sC s t).2.2.1 from rfl, if_neg nb]
  rw [hlb] at g22
  have g22 : h21[36]? = some (cO 12 (MO 0 0 ((nI (s_td s))) ((nI (s_n s))) siz too frm knd num sgn ((s_fl s)) plc wrd tld ((nI (484 * b))) lst pfo thk are ((s_br s)) ipd ((s_bs s)))) := g22
  have f24 := sm23.at f15 (by decide)
  have f25 := sm23.at f16 (by decide)
  have f26 := sm23.at f17 (by decide)
  have f27 := sm23.at f18 (by decide)
  have f28 := sm23.at f19 (by decide)
  have sm29 := sm20.tr (sm23.wide (by decide))
  refine x_if_eq (tgt := 54) dX12_stack_19 (by decide) (fun c_19 => absurd c_19 (by decide)) (fun c_19 => ?_)
  refine x_iload_n dX12_stack_22 3 rfl ?_
  refine x_iconst (v := 1) dX12_stack_23 (by decide) ?_
  refine x_bipush (v := 99) dX12_stack_24 (by decide) ?_
  refine x_callS (rf' := 0) (rl' := 0) [.int nn, .int 1, .int 99] [] dX12_stack_26 vX12_65 Y_X12_isIn rfl rfl (Nat.le_of_ble_eq_true rfl) (Nat.le_of_ble_eq_true rfl) (by decide) (by decide) c_isIn (fun _ _ e30 => ?_)
  cases e30
  by_cases hN : nn < 1 ∨ 99 < nn
  · rw [if_pos hN]
    refine x_if_eq (tgt := 54) dX12_stack_29 (by decide) (fun c_29 => ?_) (fun c_29 => absurd (by decide) c_29)
    refine x_bipush (v := (-2)) dX12_stack_54 (by decide) ?_
    exact x_iret dX12_stack_56 rfl ⟨by rw [spStack, if_pos (Or.inr (Or.inl hN))], (moR (s := s_setTn s 0) g22 f24 f25 f26 (sm29.at f40 (by decide)) f27 f28 (sm29.at f43 (by decide)) (sm29.at f44 (by decide)) (sm29.at f45 (by decide)) (sm29.at f46 (by decide)) (sm29.at f47 (by decide)) (sm29.at f48 (by decide)) (sm29.at f49 (by decide)) (fun j hj => absurd hj (Nat.not_lt_zero j)) r2 r3), sm29⟩
  · rw [if_neg hN]
    refine x_if_eq (tgt := 54) dX12_stack_29 (by decide) (fun c_29 => absurd c_29 (by decide)) (fun c_29 => ?_)
    refine x_iload_n dX12_stack_32 4 rfl ?_
    refine x_iconst (v := 0) dX12_stack_33 (by decide) ?_
    refine x_ldc (v := 60000) dX12_stack_34 kX12_173 ?_
    refine x_callS (rf' := 0) (rl' := 0) [.int ww, .int 0, .int 60000] [] dX12_stack_36 vX12_65 Y_X12_isIn rfl rfl (Nat.le_of_ble_eq_true rfl) (Nat.le_of_ble_eq_true rfl) (by decide) (by decide) c_isIn (fun _ _ e31 => ?_)
    cases e31
    by_cases hV : ww < 0 ∨ 60000 < ww
    · rw [if_pos hV]
      refine x_if_eq (tgt := 54) dX12_stack_39 (by decide) (fun c_39 => ?_) (fun c_39 => absurd (by decide) c_39)
      refine x_bipush (v := (-2)) dX12_stack_54 (by decide) ?_
      exact x_iret dX12_stack_56 rfl ⟨by rw [spStack, if_pos (Or.inr (Or.inr (Or.inl hV)))], (moR (s := s_setTn s 0) g22 f24 f25 f26 (sm29.at f40 (by decide)) f27 f28 (sm29.at f43 (by decide)) (sm29.at f44 (by decide)) (sm29.at f45 (by decide)) (sm29.at f46 (by decide)) (sm29.at f47 (by decide)) (sm29.at f48 (by decide)) (sm29.at f49 (by decide)) (fun j hj => absurd hj (Nat.not_lt_zero j)) r2 r3), sm29⟩
    · rw [if_neg hV]
      refine x_if_eq (tgt := 54) dX12_stack_39 (by decide) (fun c_39 => absurd c_39 (by decide)) (fun c_39 => ?_)
      refine x_iload dX12_stack_42 0 rfl ?_
      refine x_iconst (v := 1) dX12_stack_44 (by decide) ?_
      refine x_sipush (v := 400) dX12_stack_45 (by decide) ?_
      refine x_callS (rf' := 0) (rl' := 0) [.int (nI (s_tn s)), .int 1, .int 400] [] dX12_stack_48 vX12_65 Y_X12_isIn rfl rfl (Nat.le_of_ble_eq_true rfl) (Nat.le_of_ble_eq_true rfl) (by decide) (by decide) c_isIn (fun _ _ e32 => ?_)
      cases e32
      by_cases hL : nI (s_tn s) < 1 ∨ (400 : Int32) < nI (s_tn s)
      · rw [if_pos hL]
        refine x_if_ne (tgt := 57) dX12_stack_51 (by decide) (fun c_51 => absurd (by decide) c_51) (fun c_51 => ?_)
        refine x_bipush (v := (-2)) dX12_stack_54 (by decide) ?_
        exact x_iret dX12_stack_56 rfl ⟨by rw [spStack, if_pos (Or.inr (Or.inr (Or.inr (hlen.mp hL))))], (moR (s := s_setTn s 0) g22 f24 f25 f26 (sm29.at f40 (by decide)) f27 f28 (sm29.at f43 (by decide)) (sm29.at f44 (by decide)) (sm29.at f45 (by decide)) (sm29.at f46 (by decide)) (sm29.at f47 (by decide)) (sm29.at f48 (by decide)) (sm29.at f49 (by decide)) (fun j hj => absurd hj (Nat.not_lt_zero j)) r2 r3), sm29⟩
      · rw [if_neg hL]
        refine x_if_ne (tgt := 57) dX12_stack_51 (by decide) (fun c_51 => ?_) (fun c_51 => absurd c_51 (by decide))
        refine x_iconst (v := 0) dX12_stack_57 (by decide) ?_
        refine x_istore (lv2 := [(6, .int 0), (5, .int (nI (s_tn s))), (0, .ref 36), (1, .int (nI k)), (2, .int nn), (3, .int ww), (4, .int t)]) dX12_stack_58 (by decide) rfl ?_
        refine x_perm [0, 1, 2, 3, 4, 5] rfl ?_
        refine (lm_stack g22 f24 f25 RH hk8 htn r1 (s_tn s) 0 rfl (by omega)).weaken (fun o ho => ?_)
        subst ho
        exact ⟨by rw [spStack, if_neg (fun q => q.elim nb (fun q => q.elim hN (fun q => q.elim hV (fun q => hL (hlen.mpr q))))), ck], (moR (s := s_setTn s 0) g22 f24 f25 f26 (sm29.at f40 (by decide)) f27 f28 (sm29.at f43 (by decide)) (sm29.at f44 (by decide)) (sm29.at f45 (by decide)) (sm29.at f46 (by decide)) (sm29.at f47 (by decide)) (sm29.at f48 (by decide)) (sm29.at f49 (by decide)) (fun j hj => absurd hj (Nat.not_lt_zero j)) r2 r3), sm29⟩

theorem m_stack {G : GT} {h : List PE} {s : ST} {t : Int32} {bx nn ww : Int32} (hM : MoR h s) (hW : WS s) : CT G mX12_stack 3 65 [.ref 36, .int bx, .int nn, .int ww, .int t] h (fun o => o.1 = some (.int (spStack (sR s t) (sC s t) bx nn ww (s_tn s) (s_tv s))) ∧ MoR o.2 (s_setTn s 0) ∧ Sm [36, 41, 42] h o.2) := by
  by_cases h1 : bx < 0 ∨ nI (sC s t).2.2.1 ≤ bx
  · exact m_stackN hM hW h1
  · have W := hW.cur t
    have w2 := W.2.2.2.2.2.1
    obtain ⟨k, hk, rfl⟩ := ix_of (by omega) h1
    exact m_stackS hM hW hk (by omega) w2

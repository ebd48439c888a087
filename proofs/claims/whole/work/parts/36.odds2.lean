set_option maxRecDepth 100000 in
set_option maxHeartbeats 4000000 in
theorem l_needed {G : GT} {h : List PE} {pp ss : Nat} (hp : pp ≤ 99) (h1 : 1 ≤ ss) (hs : ss ≤ 1000000) : ∀ (m i : Nat) (left : Int64), 1000 - i = m → i ≤ 1000 → X (NF G) G mX11_needed 0 0 40 [(7, .int (nI i)), (5, .long left), (3, .long (1000000000000000 / (nI ss).toInt64)), (1, .int (nI pp))] [] h (fun o => o = (some (.int (ndF pp (1000000000000000 / (nI ss).toInt64) m i left)), h)) := by
  have hs0 := (nI_one h1 (show ss < 2 ^ 31 by omega)).2
  intro m
  induction m with
  | zero =>
    intro i left hm hi
    rw [show i = 1000 by omega]
    refine x_iload dX11_needed_40 0 rfl ?_
    refine x_sipush (v := 999) dX11_needed_42 (by decide) ?_
    refine x_icmp_gtN (tgt := 78) (a := 1000) (b := 999) (by omega) (by omega) dX11_needed_45 (by decide) (fun c_45 => ?_) (fun c_45 => absurd (by omega) c_45)
    refine x_iconst (v := (-1)) dX11_needed_78 (by decide) ?_
    exact x_iret dX11_needed_79 rfl rfl
  | succ m ih =>
    intro i left hm hi
    refine x_iload dX11_needed_40 0 rfl ?_
    refine x_sipush (v := 999) dX11_needed_42 (by decide) ?_
    refine x_icmp_gtN (tgt := 78) (a := i) (b := 999) (by omega) (by omega) dX11_needed_45 (by decide) (fun c_45 => absurd c_45 (by omega)) (fun c_45 => ?_)
    refine x_lload dX11_needed_48 1 rfl ?_
    refine x_bipush (v := 100) dX11_needed_50 (by decide) ?_
    refine x_iload_n dX11_needed_52 3 rfl ?_
    refine x_isubN (a := 100) (b := pp) (by omega) dX11_needed_53 ?_
    refine x_i2l dX11_needed_54 ?_
    refine x_lmul dX11_needed_55 ?_
    refine x_ldc2 (v := 100) dX11_needed_56 kX11_260 ?_
    refine x_ldiv dX11_needed_59 (by decide) ?_
    refine x_lstore (lv2 := [(5, .long ((left * ((nI (100 - pp))).toInt64) / 100)), (7, .int (nI i)), (3, .long (1000000000000000 / (nI ss).toInt64)), (1, .int (nI pp))]) dX11_needed_60 (by decide) rfl ?_
    refine x_lload dX11_needed_62 0 rfl ?_
    refine x_lload_n dX11_needed_64 2 rfl ?_
    refine x_lif_ge (tgt := 72) dX11_needed_65 dX11_needed_66 (by decide) (fun c_66 => ?_) (fun c_66 => ?_)
    · refine x_iincN (lv2 := [(7, .int (nI (i + 1))), (5, .long ((left * ((nI (100 - pp))).toInt64) / 100)), (3, .long (1000000000000000 / (nI ss).toInt64)), (1, .int (nI pp))]) dX11_needed_72 1 rfl (by decide) rfl ?_
      refine x_goto (tgt := 40) dX11_needed_75 (by decide) ?_
      refine x_perm [0, 1, 2, 3] rfl ?_
      exact (ih (i + 1) _ (by omega) (by omega)).weaken (fun o ho => by rw [ho, ndF, if_pos c_66])
    · refine x_iload dX11_needed_69 1 rfl ?_
      exact x_iret dX11_needed_71 rfl (by rw [ndF, if_neg c_66])

set_option maxRecDepth 100000 in
set_option maxHeartbeats 4000000 in
theorem c_needed {G : GT} {h : List PE} {p s : Int32} : CT G mX11_needed 0 0 [.ref 3, .int p, .int s] h (fun o => o = (some (.int (spNeeded p s)), h)) := by
  show X (NF G) G mX11_needed 0 0 0 [(0, .ref 3), (1, .int p), (2, .int s)] [] h _
  refine x_iload_n dX11_needed_0 1 rfl ?_
  refine x_iconst (v := 1) dX11_needed_1 (by decide) ?_
  refine x_icmp_lt (tgt := 23) dX11_needed_2 (by decide) (fun c_2 => ?_) (fun c_2 => ?_)
  · refine x_iconst (v := (-1)) dX11_needed_23 (by decide) ?_
    exact x_iret dX11_needed_24 rfl (by rw [spNeeded, if_pos (Or.inl (Or.inl c_2))])
  · refine x_iload_n dX11_needed_5 1 rfl ?_
    refine x_bipush (v := 99) dX11_needed_6 (by decide) ?_
    refine x_icmp_gt (tgt := 23) dX11_needed_8 (by decide) (fun c_8 => ?_) (fun c_8 => ?_)
    · refine x_iconst (v := (-1)) dX11_needed_23 (by decide) ?_
      exact x_iret dX11_needed_24 rfl (by rw [spNeeded, if_pos (Or.inl (Or.inr c_8))])
    · refine x_iload_n dX11_needed_11 2 rfl ?_
      refine x_iconst (v := 2) dX11_needed_12 (by decide) ?_
      refine x_icmp_lt (tgt := 23) dX11_needed_13 (by decide) (fun c_13 => ?_) (fun c_13 => ?_)
      · refine x_iconst (v := (-1)) dX11_needed_23 (by decide) ?_
        exact x_iret dX11_needed_24 rfl (by rw [spNeeded, if_pos (Or.inr (Or.inl c_13))])
      · refine x_iload_n dX11_needed_16 2 rfl ?_
        refine x_ldcw (v := 1000000) dX11_needed_17 kX11_266 ?_
        refine x_icmp_le (tgt := 25) dX11_needed_20 (by decide) (fun c_20 => ?_) (fun c_20 => ?_)
        · obtain ⟨pp, n1, n2, rfl⟩ := ixab (a := 1) (b := 99) (by decide) (by decide) c_2 c_8
          obtain ⟨ss, s1, s2, rfl⟩ := ixab (a := 2) (b := 1000000) (by decide) (by decide) c_13 (Int32.not_lt.mpr c_20)
          have hs0 := (nI_one (w := ss) (by omega) (by omega)).2
          refine x_ldc2 (v := 1000000000000000) dX11_needed_25 kX11_247 ?_
          refine x_iload_n dX11_needed_28 2 rfl ?_
          refine x_i2l dX11_needed_29 ?_
          refine x_ldiv dX11_needed_30 hs0 ?_
          refine x_lstore_n (lv2 := [(3, .long (1000000000000000 / ((nI ss)).toInt64)), (0, .ref 3), (1, .int (nI pp)), (2, .int (nI ss))]) dX11_needed_31 (by decide) rfl ?_
          refine x_ldc2 (v := 1000000000000000) dX11_needed_32 kX11_247 ?_
          refine x_lstore (lv2 := [(5, .long 1000000000000000), (3, .long (1000000000000000 / ((nI ss)).toInt64)), (0, .ref 3), (1, .int (nI pp)), (2, .int (nI ss))]) dX11_needed_35 (by decide) rfl ?_
          refine x_iconst (v := 1) dX11_needed_37 (by decide) ?_
          refine x_istore (lv2 := [(7, .int 1), (5, .long 1000000000000000), (3, .long (1000000000000000 / ((nI ss)).toInt64)), (0, .ref 3), (1, .int (nI pp)), (2, .int (nI ss))]) dX11_needed_38 (by decide) rfl ?_
          refine x_perm [0, 1, 2, 4] rfl ?_
          exact (l_needed n2 (by omega) s2 999 1 _ rfl (by decide)).weaken (fun o ho => by rw [ho, spNeeded, if_neg (fun q => q.elim (fun q => q.elim c_2 c_8) (fun q => q.elim c_13 (Int32.not_lt.mpr c_20))), nI_clamp (by omega)])
        · refine x_iconst (v := (-1)) dX11_needed_23 (by decide) ?_
          exact x_iret dX11_needed_24 rfl (by rw [spNeeded, if_pos (Or.inr (Or.inr (Int32.not_le.mp c_20)))])

set_option maxRecDepth 100000 in
set_option maxHeartbeats 4000000 in
theorem lm_needed {G : GT} {h : List PE} {pp ss : Nat} (hp : pp ≤ 99) (h1 : 1 ≤ ss) (hs : ss ≤ 1000000) : ∀ (m i : Nat) (left : Int64), 1000 - i = m → i ≤ 1000 → X (NF G) G mX12_needed 1 22 35 [(5, .int (nI i)), (3, .long left), (1, .int (nI pp)), (2, .int (nI ss))] [] h (fun o => o = (some (.int (ndF pp (1000000000000000 / (nI ss).toInt64) m i left)), h)) := by
  have hs0 := (nI_one h1 (show ss < 2 ^ 31 by omega)).2
  intro m
  induction m with
  | zero =>
    intro i left hm hi
    rw [show i = 1000 by omega]
    refine x_iload dX12_needed_35 0 rfl ?_
    refine x_sipush (v := 999) dX12_needed_37 (by decide) ?_
    refine x_icmp_gtN (tgt := 75) (a := 1000) (b := 999) (by omega) (by omega) dX12_needed_40 (by decide) (fun c_40 => ?_) (fun c_40 => absurd (by omega) c_40)
    refine x_iconst (v := (-1)) dX12_needed_75 (by decide) ?_
    exact x_iret dX12_needed_76 rfl rfl
  | succ m ih =>
    intro i left hm hi
    refine x_iload dX12_needed_35 0 rfl ?_
    refine x_sipush (v := 999) dX12_needed_37 (by decide) ?_
    refine x_icmp_gtN (tgt := 75) (a := i) (b := 999) (by omega) (by omega) dX12_needed_40 (by decide) (fun c_40 => absurd c_40 (by omega)) (fun c_40 => ?_)
    refine x_lload_n dX12_needed_43 1 rfl ?_
    refine x_bipush (v := 100) dX12_needed_44 (by decide) ?_
    refine x_iload_n dX12_needed_46 2 rfl ?_
    refine x_isubN (a := 100) (b := pp) (by omega) dX12_needed_47 ?_
    refine x_i2l dX12_needed_48 ?_
    refine x_lmul dX12_needed_49 ?_
    refine x_ldc2 (v := 100) dX12_needed_50 kX12_232 ?_
    refine x_ldiv dX12_needed_53 (by decide) ?_
    refine x_lstore_n (lv2 := [(3, .long ((left * ((nI (100 - pp))).toInt64) / 100)), (5, .int (nI i)), (1, .int (nI pp)), (2, .int (nI ss))]) dX12_needed_54 (by decide) rfl ?_
    refine x_lload_n dX12_needed_55 0 rfl ?_
    refine x_ldc2 (v := 1000000000000000) dX12_needed_56 kX12_302 ?_
    refine x_iload_n dX12_needed_59 3 rfl ?_
    refine x_i2l dX12_needed_60 ?_
    refine x_ldiv dX12_needed_61 hs0 ?_
    refine x_lif_ge (tgt := 69) dX12_needed_62 dX12_needed_63 (by decide) (fun c_63 => ?_) (fun c_63 => ?_)
    · refine x_iincN (lv2 := [(5, .int (nI (i + 1))), (3, .long ((left * ((nI (100 - pp))).toInt64) / 100)), (1, .int (nI pp)), (2, .int (nI ss))]) dX12_needed_69 1 rfl (by decide) rfl ?_
      refine x_goto (tgt := 35) dX12_needed_72 (by decide) ?_
      refine x_perm [0, 1, 2, 3] rfl ?_
      exact (ih (i + 1) _ (by omega) (by omega)).weaken (fun o ho => by rw [ho, ndF, if_pos c_63])
    · refine x_iload dX12_needed_66 1 rfl ?_
      exact x_iret dX12_needed_68 rfl (by rw [ndF, if_neg c_63])

set_option maxRecDepth 100000 in
set_option maxHeartbeats 4000000 in
theorem m_needed {G : GT} {h : List PE} {s : ST} (hM : MoR h s) {p sx : Int32} : CT G mX12_needed 1 22 [.ref 36, .int p, .int sx] h (fun o => o.1 = some (.int (spNeeded p sx)) ∧ MoR o.2 s ∧ Sm [36] h o.2) := by
  obtain ⟨thr, siz, too, frm, knd, num, sgn, plc, wrd, tld, now, lst, pfo, thk, are, ipd, mt, bk, dy, nm, cv, sv, k1, k2, k3, k4, k5, k6, k7, f36, f37, f38, f39, f40, f41, f42, f43, f44, f45, f46, f47, f48, f49, r1, r2, r3⟩ := hM
  have sm0 : Sm [36] h h := Sm.rf
  show X (NF G) G mX12_needed 1 22 0 [(0, .ref 36), (1, .int p), (2, .int sx)] [] h _
  refine x_aload_n dX12_needed_0 0 rfl ?_
  refine x_iconst (v := 0) dX12_needed_1 (by decide) ?_
  refine x_put (fs2 := (MO 0 ((nI (s_tn s))) ((nI (s_td s))) ((nI (s_n s))) siz too frm knd num sgn ((s_fl s)) plc wrd tld now lst pfo thk are ((s_br s)) ipd ((s_bs s)))) dX12_needed_2 fX12_55 (Or.inl rfl) f36 (by decide) rfl rfl (Nat.le_of_ble_eq_true rfl) rfl (fun h1 a2 e3 l4 s5 => ?_)
  have sm6 := Sm.put sm0 e3 l4 s5 (by decide)
  refine x_iload_n dX12_needed_5 1 rfl ?_
  refine x_iconst (v := 1) dX12_needed_6 (by decide) ?_
  refine x_bipush (v := 99) dX12_needed_7 (by decide) ?_
  refine x_callS (rf' := 0) (rl' := 0) [.int p, .int 1, .int 99] [] dX12_needed_9 vX12_65 Y_X12_isIn rfl rfl (Nat.le_of_ble_eq_true rfl) (Nat.le_of_ble_eq_true rfl) (by decide) (by decide) c_isIn (fun _ _ e7 => ?_)
  cases e7
  by_cases hN : p < 1 ∨ 99 < p
  · rw [if_pos hN]
    refine x_if_eq (tgt := 26) dX12_needed_12 (by decide) (fun c_12 => ?_) (fun c_12 => absurd (by decide) c_12)
    refine x_iconst (v := (-1)) dX12_needed_26 (by decide) ?_
    exact x_iret dX12_needed_27 rfl ⟨by rw [spNeeded, if_pos (Or.inl hN)], (moR a2 (sm6.at f37 (by decide)) (sm6.at f38 (by decide)) (sm6.at f39 (by decide)) (sm6.at f40 (by decide)) (sm6.at f41 (by decide)) (sm6.at f42 (by decide)) (sm6.at f43 (by decide)) (sm6.at f44 (by decide)) (sm6.at f45 (by decide)) (sm6.at f46 (by decide)) (sm6.at f47 (by decide)) (sm6.at f48 (by decide)) (sm6.at f49 (by decide)) r1 r2 r3), sm6⟩
  · rw [if_neg hN]
    refine x_if_eq (tgt := 26) dX12_needed_12 (by decide) (fun c_12 => absurd c_12 (by decide)) (fun c_12 => ?_)
    refine x_iload_n dX12_needed_15 2 rfl ?_
    refine x_iconst (v := 2) dX12_needed_16 (by decide) ?_
    refine x_ldcw (v := 1000000) dX12_needed_17 kX12_308 ?_
    refine x_callS (rf' := 0) (rl' := 0) [.int sx, .int 2, .int 1000000] [] dX12_needed_20 vX12_65 Y_X12_isIn rfl rfl (Nat.le_of_ble_eq_true rfl) (Nat.le_of_ble_eq_true rfl) (by decide) (by decide) c_isIn (fun _ _ e8 => ?_)
    cases e8
    by_cases hS : sx < 2 ∨ 1000000 < sx
    · rw [if_pos hS]
      refine x_if_ne (tgt := 28) dX12_needed_23 (by decide) (fun c_23 => absurd (by decide) c_23) (fun c_23 => ?_)
      refine x_iconst (v := (-1)) dX12_needed_26 (by decide) ?_
      exact x_iret dX12_needed_27 rfl ⟨by rw [spNeeded, if_pos (Or.inr hS)], (moR a2 (sm6.at f37 (by decide)) (sm6.at f38 (by decide)) (sm6.at f39 (by decide)) (sm6.at f40 (by decide)) (sm6.at f41 (by decide)) (sm6.at f42 (by decide)) (sm6.at f43 (by decide)) (sm6.at f44 (by decide)) (sm6.at f45 (by decide)) (sm6.at f46 (by decide)) (sm6.at f47 (by decide)) (sm6.at f48 (by decide)) (sm6.at f49 (by decide)) r1 r2 r3), sm6⟩
    · rw [if_neg hS]
      refine x_if_ne (tgt := 28) dX12_needed_23 (by decide) (fun c_23 => ?_) (fun c_23 => absurd c_23 (by decide))
      refine x_ldc2 (v := 1000000000000000) dX12_needed_28 kX12_302 ?_
      refine x_lstore_n (lv2 := [(3, .long 1000000000000000), (0, .ref 36), (1, .int p), (2, .int sx)]) dX12_needed_31 (by decide) rfl ?_
      refine x_iconst (v := 1) dX12_needed_32 (by decide) ?_
      refine x_istore (lv2 := [(5, .int 1), (3, .long 1000000000000000), (0, .ref 36), (1, .int p), (2, .int sx)]) dX12_needed_33 (by decide) rfl ?_
      obtain ⟨pp, n1, n2, rfl⟩ := ixab (a := 1) (b := 99) (by decide) (by decide) (fun q => hN (Or.inl q)) (fun q => hN (Or.inr q))
      obtain ⟨ss, s1, s2, rfl⟩ := ixab (a := 2) (b := 1000000) (by decide) (by decide) (fun q => hS (Or.inl q)) (fun q => hS (Or.inr q))
      refine x_perm [0, 1, 3, 4] rfl ?_
      refine (lm_needed n2 (by omega) s2 999 1 _ rfl (by decide)).weaken (fun o ho => ?_)
      subst ho
      exact ⟨by rw [spNeeded, if_neg (fun q => q.elim hN hS), nI_clamp (by omega)], (moR a2 (sm6.at f37 (by decide)) (sm6.at f38 (by decide)) (sm6.at f39 (by decide)) (sm6.at f40 (by decide)) (sm6.at f41 (by decide)) (sm6.at f42 (by decide)) (sm6.at f43 (by decide)) (sm6.at f44 (by decide)) (sm6.at f45 (by decide)) (sm6.at f46 (by decide)) (sm6.at f47 (by decide)) (sm6.at f48 (by decide)) (sm6.at f49 (by decide)) r1 r2 r3), sm6⟩

noncomputable def spPush (rec : Nat → Int32) (c : Nat × Nat × Nat × Nat) (fo pct kt : Int32) : Int32 := if (fo < 0 ∨ nI c.1 ≤ fo) ∨ bK kt ∨ pct < 0 then -1 else if nI (PR rec (4 + 20 * fo.toNatClampNeg) (npR rec (4 + 20 * fo.toNatClampNeg) - 1)) < pct then -1 else cuR rec (4 + 20 * fo.toNatClampNeg) kt pct.toNatClampNeg

set_option maxRecDepth 100000 in
set_option maxHeartbeats 4000000 in
theorem c_pushN {G : GT} {h : List PE} {n td : Nat} {dy : Nat → Int32} {rc : Nat → Nat → Int32} {ct : Nat → Nat × Nat × Nat × Nat} {fk br t : Int32} {fo pct kt : Int32} (hfa : FaR h n td fk br) (hbk : BkR h n dy rc ct) (hn : n ≤ 20) (W : WFk (curR n dy rc t) (curC n dy ct t)) (hs : fo < 0 ∨ nI (curC n dy ct t).1 ≤ fo) : CT G mX11_push 2 43 [.ref 3, .int fo, .int pct, .int kt, .int t] h (fun o => o = (some (.int (spPush (curR n dy rc t) (curC n dy ct t) fo pct kt)), h)) := by
  obtain ⟨zb, bq, ab, day, f15, hd, hab, hB⟩ := hbk.cur t
  obtain ⟨hb0, b1, b2, b3, b4, fq, tq, bq2, dq, zf, zt, zb2, zd, ln, q1, q2, q3, q4, q5, r0, r1, r2, r3, r4, k1, k2, k3, k4⟩ := id hB
  have f3 : h[3]? = some (cO 11 [.ref 4, .ref 6, .ref 15, .ref 16, .ref 21, .ref 25, .ref 32, .ref 35, .int (nI n), .int (nI td), .int fk, .int br]) := hfa
  have w2 := W.2.1
  show X (NF G) G mX11_push 2 43 0 [(0, .ref 3), (1, .int fo), (2, .int pct), (3, .int kt), (4, .int t)] [] h _
  refine x_aload_n dX11_push_0 0 rfl ?_
  refine x_iload dX11_push_1 4 rfl ?_
  refine x_callV (rf' := 1) (rl' := 21) [.int t] [] dX11_push_3 vX11_95 Y_X11_asOf f3 (by decide) rfl rfl (Nat.le_of_ble_eq_true rfl) (Nat.le_of_ble_eq_true rfl) (by decide) (by decide) (c_asOf hfa f15 hn hd) (fun _ _ e1 => ?_)
  cases e1
  rw [hab]
  refine x_iload_n dX11_push_6 1 rfl ?_
  refine x_callV (rf' := 0) (rl' := 0) [.int fo] [] dX11_push_7 vX11_111 Y_X0_foamAt r0 (by omega) rfl rfl (Nat.le_of_ble_eq_true rfl) (Nat.le_of_ble_eq_true rfl) (by decide) (by decide) (c_foamAtN r0 (by omega) hs) (fun _ _ e1 => ?_)
  cases e1
  refine x_astoreN (lv2 := [(5, .null), (0, .ref 3), (1, .int fo), (2, .int pct), (3, .int kt), (4, .int t)]) dX11_push_10 (by decide) rfl ?_
  refine x_aloadN dX11_push_12 0 rfl ?_
  refine x_ifnullN (tgt := 24) dX11_push_14 (by decide) ?_
  refine x_iconst (v := (-1)) dX11_push_24 (by decide) ?_
  exact x_iret dX11_push_25 rfl (by rw [spPush, if_pos (Or.inl hs)])

set_option maxRecDepth 100000 in
set_option maxHeartbeats 4000000 in
theorem c_pushS {G : GT} {h : List PE} {n td : Nat} {dy : Nat → Int32} {rc : Nat → Nat → Int32} {ct : Nat → Nat × Nat × Nat × Nat} {fk br t : Int32} {k : Nat} {pct kt : Int32} (hfa : FaR h n td fk br) (hbk : BkR h n dy rc ct) (hn : n ≤ 20) (W : WFk (curR n dy rc t) (curC n dy ct t)) (hk : k < (curC n dy ct t).1) : CT G mX11_push 2 43 [.ref 3, .int (nI k), .int pct, .int kt, .int t] h (fun o => o = (some (.int (spPush (curR n dy rc t) (curC n dy ct t) (nI k) pct kt)), h)) := by
  obtain ⟨zb, bq, ab, day, f15, hd, hab, hB⟩ := hbk.cur t
  obtain ⟨hb0, b1, b2, b3, b4, fq, tq, bq2, dq, zf, zt, zb2, zd, ln, q1, q2, q3, q4, q5, r0, r1, r2, r3, r4, k1, k2, k3, k4⟩ := id hB
  have f3 : h[3]? = some (cO 11 [.ref 4, .ref 6, .ref 15, .ref 16, .ref 21, .ref 25, .ref 32, .ref 35, .int (nI n), .int (nI td), .int fk, .int br]) := hfa
  have w2 := W.2.1
  have ck : (nI k).toNatClampNeg = k := nI_clamp (by omega)
  have nb : ¬ (nI k < 0 ∨ nI (curC n dy ct t).1 ≤ nI k) := fun q => q.elim (nI_pos (by omega)) (fun q => absurd ((nI_leI (by omega) (by omega)).mp q) (by omega))
  show X (NF G) G mX11_push 2 43 0 [(0, .ref 3), (1, .int (nI k)), (2, .int pct), (3, .int kt), (4, .int t)] [] h _
  refine x_aload_n dX11_push_0 0 rfl ?_
  refine x_iload dX11_push_1 4 rfl ?_
  refine x_callV (rf' := 1) (rl' := 21) [.int t] [] dX11_push_3 vX11_95 Y_X11_asOf f3 (by decide) rfl rfl (Nat.le_of_ble_eq_true rfl) (Nat.le_of_ble_eq_true rfl) (by decide) (by decide) (c_asOf hfa f15 hn hd) (fun _ _ e1 => ?_)
  cases e1
  rw [hab]
  refine x_iload_n dX11_push_6 1 rfl ?_
  refine x_callV (rf' := 0) (rl' := 0) [.int (nI k)] [] dX11_push_7 vX11_111 Y_X0_foamAt r0 (by omega) rfl rfl (Nat.le_of_ble_eq_true rfl) (Nat.le_of_ble_eq_true rfl) (by decide) (by decide) (c_foamAtS r0 r1 (by omega) (by omega) w2 hk (k1 k hk).1) (fun _ _ e1 => ?_)
  cases e1
  obtain ⟨np, P, U, ke, pr, WF⟩ := W.2.2.2.2.2.2.2.2.1 k hk
  have WF := WF.canon
  obtain ⟨hfo, p, q, g1, g2, p1, p2, fa, fp, fq9, hg⟩ := (k1 k hk).2 _ WF.1 WF.2.2.1
  refine x_astore (lv2 := [(5, .ref (fq k)), (0, .ref 3), (1, .int (nI k)), (2, .int pct), (3, .int kt), (4, .int t)]) dX11_push_10 (by decide) rfl ?_
  refine x_aload dX11_push_12 0 rfl ?_
  refine x_ifnull dX11_push_14 ?_
  refine x_iload_n dX11_push_17 4 rfl ?_
  refine x_callS (rf' := 0) (rl' := 0) [.int kt] [] dX11_push_18 vX11_115 Y_X11_isKept rfl rfl (Nat.le_of_ble_eq_true rfl) (Nat.le_of_ble_eq_true rfl) (by decide) (by decide) c_isKept (fun _ _ e1 => ?_)
  cases e1
  by_cases hK : bK kt
  · rw [if_pos hK]
    refine x_if_ne (tgt := 26) dX11_push_21 (by decide) (fun c_21 => absurd (by decide) c_21) (fun c_21 => ?_)
    refine x_iconst (v := (-1)) dX11_push_24 (by decide) ?_
    exact x_iret dX11_push_25 rfl (by rw [spPush, if_pos (Or.inr (Or.inl hK))])
  · rw [if_neg hK]
    refine x_if_ne (tgt := 26) dX11_push_21 (by decide) (fun c_21 => ?_) (fun c_21 => absurd c_21 (by decide))
    refine x_aload dX11_push_26 0 rfl ?_
    refine x_iload_n dX11_push_28 3 rfl ?_
    by_cases hx : (0 : Int32) ≤ pct
    · obtain ⟨x, hx9, rfl⟩ := nI_of (Int32.not_lt.mpr hx)
      refine x_callV (rf' := 0) (rl' := 0) [.int (nI x)] [] dX11_push_29 vX11_119 Y_X6_pushAt fa (by omega) rfl rfl (Nat.le_of_ble_eq_true rfl) (Nat.le_of_ble_eq_true rfl) (by decide) (by decide) (c_pushAt fa fp fq9 (by omega) (by omega) (by omega) WF hg hx9) (fun r h1 e1 => ?_)
      obtain ⟨r9, e2, e3, e4⟩ := e1
      cases e2
      by_cases hl : x ≤ PR (curR n dy rc t) (4 + 20 * k) (npR (curR n dy rc t) (4 + 20 * k) - 1)
      · obtain ⟨k9, e5, e6⟩ := e3 hl
        have e7 := puR_nat WF e5
        have e8 := sgC_eq WF.2.2.2.2.2.1 e5
        rw [e6, e7.1]
        obtain ⟨v9, hv9⟩ : ∃ v, v = puN (PR (curR n dy rc t) (4 + 20 * k)) (UR (curR n dy rc t) (4 + 20 * k)) k9 x := ⟨_, rfl⟩
        rw [← hv9] at e7 ⊢
        refine x_istore (lv2 := [(6, .int (nI v9)), (5, .ref (fq k)), (0, .ref 3), (1, .int (nI k)), (2, .int (nI x)), (3, .int kt), (4, .int t)]) dX11_push_32 (by decide) rfl ?_
        refine x_iload dX11_push_34 0 rfl ?_
        refine x_iconst (v := (-1)) dX11_push_36 (by decide) ?_
        refine x_icmp_ne (tgt := 44) dX11_push_37 (by decide) (fun c_37 => ?_) (fun c_37 => absurd c_37 (fun q => by have := congrArg Int32.toInt q; rw [nI_toInt (by omega)] at this; have h1 : (-1 : Int32).toInt = -1 := rfl; omega))
        refine x_iload dX11_push_44 0 rfl ?_
        refine x_iload_n dX11_push_46 5 rfl ?_
        refine x_imul dX11_push_47 ?_
        refine x_bipush (v := 100) dX11_push_48 (by decide) ?_
        refine x_idiv dX11_push_50 (by decide) ?_
        exact x_iret dX11_push_51 rfl (by rw [spPush, if_neg (fun q => q.elim nb (fun q => q.elim hK (fun q => Int32.not_lt.mpr hx q))), ck, if_neg (fun q => absurd ((nI_ltI (by have := WF.2.2.2.2.2.2.1; omega) hx9).mp q) (by omega)), nI_clamp hx9, cuR, frR, e8, e7.1])
      · rw [e4 (by omega)]
        refine x_istore (lv2 := [(6, .int (-1)), (5, .ref (fq k)), (0, .ref 3), (1, .int (nI k)), (2, .int (nI x)), (3, .int kt), (4, .int t)]) dX11_push_32 (by decide) rfl ?_
        refine x_iload dX11_push_34 0 rfl ?_
        refine x_iconst (v := (-1)) dX11_push_36 (by decide) ?_
        refine x_icmp_ne (tgt := 44) dX11_push_37 (by decide) (fun c_37 => absurd (by decide) c_37) (fun c_37 => ?_)
        refine x_iconst (v := (-1)) dX11_push_40 (by decide) ?_
        refine x_goto (tgt := 51) dX11_push_41 (by decide) ?_
        exact x_iret dX11_push_51 rfl (by rw [spPush, if_neg (fun q => q.elim nb (fun q => q.elim hK (fun q => Int32.not_lt.mpr hx q))), ck, if_pos ((nI_ltI (by have := WF.2.2.2.2.2.2.1; omega) hx9).mpr (by omega))])
    · refine x_callV (rf' := 0) (rl' := 0) [.int pct] [] dX11_push_29 vX11_119 Y_X6_pushAt fa (by omega) rfl rfl (Nat.le_of_ble_eq_true rfl) (Nat.le_of_ble_eq_true rfl) (by decide) (by decide) (c_pushAtN (a := fq k) (p := p) (q := q) (np := 0) (ke0 := 0) (pr0 := 0) hx) (fun _ _ e1 => ?_)
      cases e1
      refine x_istore (lv2 := [(6, .int (-1)), (5, .ref (fq k)), (0, .ref 3), (1, .int (nI k)), (2, .int pct), (3, .int kt), (4, .int t)]) dX11_push_32 (by decide) rfl ?_
      refine x_iload dX11_push_34 0 rfl ?_
      refine x_iconst (v := (-1)) dX11_push_36 (by decide) ?_
      refine x_icmp_ne (tgt := 44) dX11_push_37 (by decide) (fun c_37 => absurd (by decide) c_37) (fun c_37 => ?_)
      refine x_iconst (v := (-1)) dX11_push_40 (by decide) ?_
      refine x_goto (tgt := 51) dX11_push_41 (by decide) ?_
      exact x_iret dX11_push_51 rfl (by rw [spPush, if_pos (Or.inr (Or.inr (Int32.not_le.mp hx)))])

theorem c_push {G : GT} {h : List PE} {n td : Nat} {dy : Nat → Int32} {rc : Nat → Nat → Int32} {ct : Nat → Nat × Nat × Nat × Nat} {fk br t : Int32} {fo pct kt : Int32} (hfa : FaR h n td fk br) (hbk : BkR h n dy rc ct) (hn : n ≤ 20) (W : WFk (curR n dy rc t) (curC n dy ct t)) : CT G mX11_push 2 43 [.ref 3, .int fo, .int pct, .int kt, .int t] h (fun o => o = (some (.int (spPush (curR n dy rc t) (curC n dy ct t) fo pct kt)), h)) := by
  by_cases h1 : fo < 0 ∨ nI (curC n dy ct t).1 ≤ fo
  · exact c_pushN hfa hbk hn W h1
  · obtain ⟨k, hk, rfl⟩ := ix_of (by have := W.2.1; omega) h1
    exact c_pushS hfa hbk hn W hk

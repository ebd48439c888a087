set_option maxRecDepth 100000 in
set_option maxHeartbeats 4000000 in
theorem m_spansN {G : GT} {h : List PE} {s : ST} {t : Int32} {th sd hh : Int32} (hM : MoR h s) (hW : WS s) (hbad : bT (sC s t) th ∨ bS sd ∨ bH hh) : CT G mX12_spans 4 89 [.ref 36, .int th, .int sd, .int hh, .int t] h (fun o => o.1 = some (.int (spSp (sR s t) (sC s t) th sd hh (s_tn s) (s_tv s))) ∧ MoR o.2 (s_setTn s 0) ∧ Sm [36, 41, 42] h o.2) := by
  obtain ⟨thr, siz, too, frm, knd, num, sgn, plc, wrd, tld, now, lst, pfo, thk, are, ipd, mt, bk, dy, nm, cv, sv, k1, k2, k3, k4, k5, k6, k7, f36, f37, f38, f39, f40, f41, f42, f43, f44, f45, f46, f47, f48, f49, r1, r2, r3⟩ := hM
  have W := hW.cur t
  have hm : MB (s_n s) dy bk (s_dy s) (s_rc s) := ⟨hW.1, r2⟩
  have sm0 : Sm [36, 41, 42] h h := Sm.rf
  have htn := hW.2.2.1
  show X (NF G) G mX12_spans 4 89 0 [(0, .ref 36), (1, .int th), (2, .int sd), (3, .int hh), (4, .int t)] [] h _
  refine x_aload_n dX12_spans_0 0 rfl ?_
  refine x_iconst (v := 0) dX12_spans_1 (by decide) ?_
  refine x_put (fs2 := (MO 0 ((nI (s_tn s))) ((nI (s_td s))) ((nI (s_n s))) siz too frm knd num sgn ((s_fl s)) plc wrd tld now lst pfo thk are ((s_br s)) ipd ((s_bs s)))) dX12_spans_2 fX12_55 (Or.inl rfl) f36 (by decide) rfl rfl (Nat.le_of_ble_eq_true rfl) rfl (fun h1 a2 e3 l4 s5 => ?_)
  have f6 := (e3 37 (by decide)).trans f37
  have f7 := (e3 38 (by decide)).trans f38
  have f8 := (e3 39 (by decide)).trans f39
  have f9 := (e3 41 (by decide)).trans f41
  have f10 := (e3 42 (by decide)).trans f42
  have sm11 := Sm.put sm0 e3 l4 s5 (by decide)
  refine x_aload_n dX12_spans_5 0 rfl ?_
  refine x_callV (rf' := 0) (rl' := 0) [] [] dX12_spans_6 vX12_201 Y_X12_take a2 (by decide) rfl rfl (Nat.le_of_ble_eq_true rfl) (Nat.le_of_ble_eq_true rfl) (by decide) (by decide) (c_take a2) (fun r h12 e1 => ?_)
  obtain ⟨e0, g13, sm14⟩ := e1
  cases e0
  have f15 := sm14.at f6 (by decide)
  have f16 := sm14.at f7 (by decide)
  have f17 := sm14.at f8 (by decide)
  have f18 := sm14.at f9 (by decide)
  have f19 := sm14.at f10 (by decide)
  have sm20 := sm11.tr (sm14.wide (by decide))
  refine x_istore (lv2 := [(5, .int (nI (s_tn s))), (0, .ref 36), (1, .int th), (2, .int sd), (3, .int hh), (4, .int t)]) dX12_spans_9 (by decide) rfl ?_
  refine x_iload dX12_spans_11 0 rfl ?_
  refine x_iconst (v := 4) dX12_spans_13 (by decide) ?_
  refine x_icmp_neN (tgt := 29) (a := (s_tn s)) (b := 4) (by omega) (by omega) dX12_spans_14 (by decide) (fun c_14 => ?_) (fun c_14 => ?_)
  · refine x_iconst (v := (-1)) dX12_spans_29 (by decide) ?_
    exact x_iret dX12_spans_30 rfl ⟨by rw [spSp, if_pos (hbad.elim Or.inl (fun q => Or.inr (q.elim Or.inl (fun q => Or.inr (Or.inl q)))))], (moR (s := s_setTn s 0) g13 f15 f16 f17 (sm20.at f40 (by decide)) f18 f19 (sm20.at f43 (by decide)) (sm20.at f44 (by decide)) (sm20.at f45 (by decide)) (sm20.at f46 (by decide)) (sm20.at f47 (by decide)) (sm20.at f48 (by decide)) (sm20.at f49 (by decide)) (fun j hj => absurd hj (Nat.not_lt_zero j)) r2 r3), sm20⟩
  · refine x_aload_n dX12_spans_17 1 rfl ?_
    refine x_iload_n dX12_spans_18 2 rfl ?_
    refine x_iload_n dX12_spans_19 3 rfl ?_
    refine x_iload_n dX12_spans_20 4 rfl ?_
    refine x_iload dX12_spans_21 5 rfl ?_
    refine x_callV (rf' := 3) (rl' := 65) [.int th, .int sd, .int hh, .int t] [] dX12_spans_23 vX12_248 Y_X12_isDropped g13 (by decide) rfl rfl (Nat.le_of_ble_eq_true rfl) (Nat.le_of_ble_eq_true rfl) (by decide) (by decide) (c_isDropped g13 f16 f17 hm W) (fun r h21 e1 => ?_)
    obtain ⟨e0, g22, sm23⟩ := e1
    cases e0
    rw [if_pos hbad]
    have f24 := sm23.at f15 (by decide)
    have f25 := sm23.at f16 (by decide)
    have f26 := sm23.at f17 (by decide)
    have f27 := sm23.at f18 (by decide)
    have f28 := sm23.at f19 (by decide)
    have sm29 := sm20.tr (sm23.wide (by decide))
    refine x_if_ne (tgt := 31) dX12_spans_26 (by decide) (fun c_26 => absurd (by decide) c_26) (fun c_26 => ?_)
    refine x_iconst (v := (-1)) dX12_spans_29 (by decide) ?_
    exact x_iret dX12_spans_30 rfl ⟨by rw [spSp, if_pos (hbad.elim Or.inl (fun q => Or.inr (q.elim Or.inl (fun q => Or.inr (Or.inl q)))))], (moR (s := s_setTn s 0) g22 f24 f25 f26 (sm29.at f40 (by decide)) f27 f28 (sm29.at f43 (by decide)) (sm29.at f44 (by decide)) (sm29.at f45 (by decide)) (sm29.at f46 (by decide)) (sm29.at f47 (by decide)) (sm29.at f48 (by decide)) (sm29.at f49 (by decide)) (fun j hj => absurd hj (Nat.not_lt_zero j)) r2 r3), sm29⟩

set_option maxRecDepth 100000 in
set_option maxHeartbeats 4000000 in
theorem lm_spIn {G : GT} {h : List PE} {s : ST} {t : Int32} {k sd kf b wn hn2 c : Nat} {Q : OT → Prop} {siz too frm knd num sgn plc : Int32} {wrd : Int64} {tld ipd : Int32} {mt bk : Nat → Int32} (W : WFk (sR s t) (sC s t)) (hk : k < (sC s t).2.1) (hsd : sd < 6) (WF : WFc (sR s t) (4 + 20 * kf)) (hpd : pdF (sR s t) (164 + 24 * k) sd = some kf) (RH : 484 * b + 484 ≤ 10164 ∧ ∀ j, j < 484 → bk (484 * b + j) = sR s t j) (hw : (sR s t) (164 + 24 * k) = nI wn) (hw1 : 1 ≤ wn) (hw2 : wn ≤ 60000) (hh2 : hn2 ≤ 30000) (hsp : tSp (s_tn s) (s_tv s)) (r1 : ∀ j, j < s_tn s → mt j = nI (s_tv s j)) (hc : c ≤ 200) (L : MLaid h (sR s t) k sd kf (nI c)) (f36 : h[36]? = some (cO 12 (MO 0 0 ((nI (s_td s))) ((nI (s_n s))) siz too frm knd num sgn ((s_fl s)) plc wrd tld ((nI (484 * b))) ((nI (PR (sR s t) (4 + 20 * kf) (npR (sR s t) (4 + 20 * kf) - 1)))) ((nI kf)) (((sR s t) (164 + 24 * k + 5 + 3 * sd + 1))) (((sR s t) (164 + 24 * k + 5 + 3 * sd + 2))) ((s_br s)) ipd ((s_bs s))))) (f37 : h[37]? = some (cI 640 mt)) (f38 : h[38]? = some (cI 10164 bk)) : ∀ (m w acc : Nat), s_tv s 1 + 1 - w = m → w ≤ s_tv s 1 + 1 → acc + m ≤ 1000000 → X (NF G) G mX12_spans 4 89 204 [(6, .int (nI (acc + cntW (hoW (sR s t) (164 + 24 * k) sd c wn hn2) m w))), (7, .int (nI c)), (0, .ref 36), (1, .int (nI k)), (3, .int (nI hn2))] [] h Q → X (NF G) G mX12_spans 4 89 146 [(8, .int (nI w)), (6, .int (nI acc)), (7, .int (nI c)), (0, .ref 36), (1, .int (nI k)), (3, .int (nI hn2))] [] h Q := by
  obtain ⟨h4, ⟨u1, u2, u3⟩, u4, u5, u6⟩ := hsp
  have w4 := W.2.2.2.1
  intro m
  induction m with
  | zero =>
    intro w acc hm hwl hac K
    refine x_iload dX12_spans_146 0 rfl ?_
    refine x_aload_n dX12_spans_148 3 rfl ?_
    refine x_get (v := .ref 37) dX12_spans_149 fX12_7 f36 (by decide) rfl ?_
    refine x_iconst (v := 1) dX12_spans_152 (by decide) ?_
    refine x_ialdN (i := 1) dX12_spans_153 f37 (by decide) (by omega) (by decide) ?_
    rw [r1 1 (by omega)]
    refine x_icmp_gtN (tgt := 204) (a := w) (b := (s_tv s 1)) (by omega) (by omega) dX12_spans_154 (by decide) (fun c_154 => ?_) (fun c_154 => absurd (by omega) c_154)
    refine x_perm [1, 2, 3, 4, 5] rfl ?_
    exact K
  | succ m ih =>
    intro w acc hm hwl hac K
    have e0 := wgN_nI (w := w) hw2 (by omega)
    have e1 := wgN_one wn w
    have e2 := wgN_le (w := w) hw2 (by omega)
    have e3 := nI_one e1 (show wgN wn w < 2 ^ 31 by omega)
    refine x_iload dX12_spans_146 0 rfl ?_
    refine x_aload_n dX12_spans_148 3 rfl ?_
    refine x_get (v := .ref 37) dX12_spans_149 fX12_7 f36 (by decide) rfl ?_
    refine x_iconst (v := 1) dX12_spans_152 (by decide) ?_
    refine x_ialdN (i := 1) dX12_spans_153 f37 (by decide) (by omega) (by decide) ?_
    rw [r1 1 (by omega)]
    refine x_icmp_gtN (tgt := 204) (a := w) (b := (s_tv s 1)) (by omega) (by omega) dX12_spans_154 (by decide) (fun c_154 => absurd c_154 (by omega)) (fun c_154 => ?_)
    refine x_aload_n dX12_spans_157 3 rfl ?_
    refine x_iload_n dX12_spans_158 4 rfl ?_
    refine x_callV (rf' := 1) (rl' := 21) [.int (nI k)] [] dX12_spans_159 vX12_255 Y_X12_weightOf f36 (by decide) rfl rfl (Nat.le_of_ble_eq_true rfl) (Nat.le_of_ble_eq_true rfl) (by decide) (by decide) (c_weightOfR f36 f38 RH (by omega)) (fun _ _ e1 => ?_)
    cases e1
    rw [hw]
    refine x_iload dX12_spans_162 0 rfl ?_
    refine x_imul dX12_spans_164 ?_
    refine x_bipush (v := 100) dX12_spans_165 (by decide) ?_
    refine x_idiv dX12_spans_167 (by decide) ?_
    rw [e0.1]
    refine x_istore (lv2 := [(9, .int (nI (wn * w / 100))), (8, .int (nI w)), (6, .int (nI acc)), (7, .int (nI c)), (0, .ref 36), (1, .int (nI k)), (3, .int (nI hn2))]) dX12_spans_168 (by decide) rfl ?_
    refine x_aload_n dX12_spans_170 4 rfl ?_
    refine x_iload dX12_spans_171 0 rfl ?_
    refine x_iconst (v := 1) dX12_spans_173 (by decide) ?_
    refine x_icmp_geN (tgt := 181) (a := (wn * w / 100)) (b := 1) (by omega) (by omega) dX12_spans_174 (by decide) (fun c_174 => ?_) (fun c_174 => ?_)
    · refine x_iload dX12_spans_181 0 rfl ?_
      rw [show nI (wn * w / 100) = nI (wgN wn w) from by (unfold wgN; rw [if_neg (by omega)])]
      refine x_iload_n dX12_spans_183 6 rfl ?_
      refine x_aload_n dX12_spans_184 4 rfl ?_
      refine x_iload_n dX12_spans_185 5 rfl ?_
      refine x_callV (rf' := 1) (rl' := 21) [.int (nI k)] [.int (nI hn2), .int (nI (wgN wn w)), .ref 36] dX12_spans_186 vX12_270 Y_X12_markOf f36 (by decide) rfl rfl (Nat.le_of_ble_eq_true rfl) (Nat.le_of_ble_eq_true rfl) (by decide) (by decide) (c_markOfR f36 f38 RH (by omega)) (fun _ _ e2 => ?_)
      cases e2
      refine x_callV (rf' := 1) (rl' := 29) [.int (nI (wgN wn w)), .int (nI hn2), .int ((sR s t) (164 + 24 * k + 4))] [] dX12_spans_189 vX12_273 Y_X12_holds f36 (by decide) rfl rfl (Nat.le_of_ble_eq_true rfl) (Nat.le_of_ble_eq_true rfl) (by decide) (by decide) (c_holdsM f36 L WF hpd e3.2) (fun _ _ q1 => ?_)
      cases q1
      rw [HO_WI W hk hsd hc e1 (by omega) hh2]
      by_cases hO : (hoW (sR s t) (164 + 24 * k) sd c wn hn2) w = true
      · rw [if_pos hO]
        refine x_if_eq (tgt := 198) dX12_spans_192 (by decide) (fun c_192 => absurd c_192 (by decide)) (fun c_192 => ?_)
        refine x_iincN (lv2 := [(6, .int (nI (acc + 1))), (9, .int (nI (wgN wn w))), (8, .int (nI w)), (7, .int (nI c)), (0, .ref 36), (1, .int (nI k)), (3, .int (nI hn2))]) dX12_spans_195 2 rfl (by decide) rfl ?_
        refine x_iincN (lv2 := [(8, .int (nI (w + 1))), (6, .int (nI (acc + 1))), (9, .int (nI (wgN wn w))), (7, .int (nI c)), (0, .ref 36), (1, .int (nI k)), (3, .int (nI hn2))]) dX12_spans_198 2 rfl (by decide) rfl ?_
        refine x_goto (tgt := 146) dX12_spans_201 (by decide) ?_
        refine x_perm [0, 1, 3, 4, 5, 6] rfl ?_
        refine ih (w + 1) (acc + 1) (by omega) (by omega) (by omega) ?_
        rw [show acc + 1 + cntW (hoW (sR s t) (164 + 24 * k) sd c wn hn2) m (w + 1) = acc + cntW (hoW (sR s t) (164 + 24 * k) sd c wn hn2) (m + 1) w from by (rw [cntW, if_pos hO, Nat.add_assoc])]
        exact K
      · rw [if_neg hO]
        refine x_if_eq (tgt := 198) dX12_spans_192 (by decide) (fun c_192 => ?_) (fun c_192 => absurd (by decide) c_192)
        refine x_iincN (lv2 := [(8, .int (nI (w + 1))), (9, .int (nI (wgN wn w))), (6, .int (nI acc)), (7, .int (nI c)), (0, .ref 36), (1, .int (nI k)), (3, .int (nI hn2))]) dX12_spans_198 1 rfl (by decide) rfl ?_
        refine x_goto (tgt := 146) dX12_spans_201 (by decide) ?_
        refine x_perm [0, 2, 3, 4, 5, 6] rfl ?_
        refine ih (w + 1) acc (by omega) (by omega) (by omega) ?_
        rw [show acc + cntW (hoW (sR s t) (164 + 24 * k) sd c wn hn2) m (w + 1) = acc + cntW (hoW (sR s t) (164 + 24 * k) sd c wn hn2) (m + 1) w from by (rw [cntW, if_neg hO, Nat.zero_add])]
        exact K
    · refine x_iconst (v := 1) dX12_spans_177 (by decide) ?_
      refine x_goto (tgt := 183) dX12_spans_178 (by decide) ?_
      rw [show (1 : Int32) = nI (wgN wn w) from by (unfold wgN; rw [if_pos (by omega)]; rfl)]
      refine x_iload_n dX12_spans_183 6 rfl ?_
      refine x_aload_n dX12_spans_184 4 rfl ?_
      refine x_iload_n dX12_spans_185 5 rfl ?_
      refine x_callV (rf' := 1) (rl' := 21) [.int (nI k)] [.int (nI hn2), .int (nI (wgN wn w)), .ref 36] dX12_spans_186 vX12_270 Y_X12_markOf f36 (by decide) rfl rfl (Nat.le_of_ble_eq_true rfl) (Nat.le_of_ble_eq_true rfl) (by decide) (by decide) (c_markOfR f36 f38 RH (by omega)) (fun _ _ e3 => ?_)
      cases e3
      refine x_callV (rf' := 1) (rl' := 29) [.int (nI (wgN wn w)), .int (nI hn2), .int ((sR s t) (164 + 24 * k + 4))] [] dX12_spans_189 vX12_273 Y_X12_holds f36 (by decide) rfl rfl (Nat.le_of_ble_eq_true rfl) (Nat.le_of_ble_eq_true rfl) (by decide) (by decide) (c_holdsM f36 L WF hpd e3.2) (fun _ _ q1 => ?_)
      cases q1
      rw [HO_WI W hk hsd hc e1 (by omega) hh2]
      by_cases hO : (hoW (sR s t) (164 + 24 * k) sd c wn hn2) w = true
      · rw [if_pos hO]
        refine x_if_eq (tgt := 198) dX12_spans_192 (by decide) (fun c_192 => absurd c_192 (by decide)) (fun c_192 => ?_)
        refine x_iincN (lv2 := [(6, .int (nI (acc + 1))), (9, .int (nI (wn * w / 100))), (8, .int (nI w)), (7, .int (nI c)), (0, .ref 36), (1, .int (nI k)), (3, .int (nI hn2))]) dX12_spans_195 2 rfl (by decide) rfl ?_
        refine x_iincN (lv2 := [(8, .int (nI (w + 1))), (6, .int (nI (acc + 1))), (9, .int (nI (wn * w / 100))), (7, .int (nI c)), (0, .ref 36), (1, .int (nI k)), (3, .int (nI hn2))]) dX12_spans_198 2 rfl (by decide) rfl ?_
        refine x_goto (tgt := 146) dX12_spans_201 (by decide) ?_
        refine x_perm [0, 1, 3, 4, 5, 6] rfl ?_
        refine ih (w + 1) (acc + 1) (by omega) (by omega) (by omega) ?_
        rw [show acc + 1 + cntW (hoW (sR s t) (164 + 24 * k) sd c wn hn2) m (w + 1) = acc + cntW (hoW (sR s t) (164 + 24 * k) sd c wn hn2) (m + 1) w from by (rw [cntW, if_pos hO, Nat.add_assoc])]
        exact K
      · rw [if_neg hO]
        refine x_if_eq (tgt := 198) dX12_spans_192 (by decide) (fun c_192 => ?_) (fun c_192 => absurd (by decide) c_192)
        refine x_iincN (lv2 := [(8, .int (nI (w + 1))), (9, .int (nI (wn * w / 100))), (6, .int (nI acc)), (7, .int (nI c)), (0, .ref 36), (1, .int (nI k)), (3, .int (nI hn2))]) dX12_spans_198 1 rfl (by decide) rfl ?_
        refine x_goto (tgt := 146) dX12_spans_201 (by decide) ?_
        refine x_perm [0, 2, 3, 4, 5, 6] rfl ?_
        refine ih (w + 1) acc (by omega) (by omega) (by omega) ?_
        rw [show acc + cntW (hoW (sR s t) (164 + 24 * k) sd c wn hn2) m (w + 1) = acc + cntW (hoW (sR s t) (164 + 24 * k) sd c wn hn2) (m + 1) w from by (rw [cntW, if_neg hO, Nat.zero_add])]
        exact K

set_option maxRecDepth 100000 in
set_option maxHeartbeats 4000000 in
theorem lm_spOut {G : GT} {s : ST} {t : Int32} {k sd kf b wn hn2 : Nat} {siz too frm knd num sgn plc : Int32} {wrd : Int64} {tld ipd : Int32} {mt bk : Nat → Int32} (W : WFk (sR s t) (sC s t)) (hk : k < (sC s t).2.1) (hsd : sd < 6) (WF : WFc (sR s t) (4 + 20 * kf)) (hpd : pdF (sR s t) (164 + 24 * k) sd = some kf) (RH : 484 * b + 484 ≤ 10164 ∧ ∀ j, j < 484 → bk (484 * b + j) = sR s t j) (hw : (sR s t) (164 + 24 * k) = nI wn) (hw1 : 1 ≤ wn) (hw2 : wn ≤ 60000) (hh2 : hn2 ≤ 30000) (hsp : tSp (s_tn s) (s_tv s)) (r1 : ∀ j, j < s_tn s → mt j = nI (s_tv s j)) (hkf : kf < 8) : ∀ (m c acc : Nat) (lst : Int32) (cv : Nat → Int32) (sv : Nat → Int64) (h : List PE), s_tv s 3 + 1 - c = m → c ≤ s_tv s 3 + 1 → acc + 200 * m ≤ 100000 → h[36]? = some (cO 12 (MO 0 0 ((nI (s_td s))) ((nI (s_n s))) siz too frm knd num sgn ((s_fl s)) plc wrd tld ((nI (484 * b))) lst ((nI kf)) (((sR s t) (164 + 24 * k + 5 + 3 * sd + 1))) (((sR s t) (164 + 24 * k + 5 + 3 * sd + 2))) ((s_br s)) ipd ((s_bs s)))) → h[37]? = some (cI 640 mt) → h[38]? = some (cI 10164 bk) → h[41]? = some (cI 96 cv) → h[42]? = some (cJ 96 sv) → X (NF G) G mX12_spans 4 89 117 [(7, .int (nI c)), (6, .int (nI acc)), (0, .ref 36), (1, .int (nI k)), (3, .int (nI hn2))] [] h (fun o => o.1 = some (.int (nI (acc + cntC (fun c => cntW (hoW (sR s t) (164 + 24 * k) sd c wn hn2) (s_tv s 1 + 1 - s_tv s 0) (s_tv s 0)) m c))) ∧ (∃ (lst2 : Int32) (cv2 : Nat → Int32) (sv2 : Nat → Int64), o.2[36]? = some (cO 12 (MO 0 0 ((nI (s_td s))) ((nI (s_n s))) siz too frm knd num sgn ((s_fl s)) plc wrd tld ((nI (484 * b))) lst2 ((nI kf)) (((sR s t) (164 + 24 * k + 5 + 3 * sd + 1))) (((sR s t) (164 + 24 * k + 5 + 3 * sd + 2))) ((s_br s)) ipd ((s_bs s)))) ∧ o.2[41]? = some (cI 96 cv2) ∧ o.2[42]? = some (cJ 96 sv2)) ∧ Sm [36, 41, 42] h o.2) := by
  obtain ⟨h4, ⟨u1, u2, u3⟩, u4, u5, u6⟩ := id hsp
  have w4 := W.2.2.2.1
  intro m
  induction m with
  | zero =>
    intro c acc lst cv sv h hm hc hac f36 f37 f38 f41 f42
    have sm0 : Sm [36, 41, 42] h h := Sm.rf
    refine x_iload dX12_spans_117 0 rfl ?_
    refine x_aload_n dX12_spans_119 2 rfl ?_
    refine x_get (v := .ref 37) dX12_spans_120 fX12_7 f36 (by decide) rfl ?_
    refine x_iconst (v := 3) dX12_spans_123 (by decide) ?_
    refine x_ialdN (i := 3) dX12_spans_124 f37 (by decide) (by omega) (by decide) ?_
    rw [r1 3 (by omega)]
    refine x_icmp_gtN (tgt := 210) (a := c) (b := (s_tv s 3)) (by omega) (by omega) dX12_spans_125 (by decide) (fun c_125 => ?_) (fun c_125 => absurd (by omega) c_125)
    refine x_iload dX12_spans_210 1 rfl ?_
    exact x_iret dX12_spans_212 rfl ⟨rfl, ⟨lst, cv, sv, f36, f41, f42⟩, sm0⟩
  | succ m ih =>
    intro c acc lst cv sv h hm hc hac f36 f37 f38 f41 f42
    have sm0 : Sm [36, 41, 42] h h := Sm.rf
    refine x_iload dX12_spans_117 0 rfl ?_
    refine x_aload_n dX12_spans_119 2 rfl ?_
    refine x_get (v := .ref 37) dX12_spans_120 fX12_7 f36 (by decide) rfl ?_
    refine x_iconst (v := 3) dX12_spans_123 (by decide) ?_
    refine x_ialdN (i := 3) dX12_spans_124 f37 (by decide) (by omega) (by decide) ?_
    rw [r1 3 (by omega)]
    refine x_icmp_gtN (tgt := 210) (a := c) (b := (s_tv s 3)) (by omega) (by omega) dX12_spans_125 (by decide) (fun c_125 => absurd c_125 (by omega)) (fun c_125 => ?_)
    refine x_aload_n dX12_spans_128 2 rfl ?_
    refine x_aload_n dX12_spans_129 2 rfl ?_
    refine x_get (v := .int (nI kf)) dX12_spans_130 fX12_239 f36 (by decide) rfl ?_
    refine x_iload dX12_spans_133 0 rfl ?_
    refine x_callV (rf' := 1) (rl' := 21) [.int (nI kf), .int (nI c)] [] dX12_spans_135 vX12_226 Y_X12_lay f36 (by decide) rfl rfl (Nat.le_of_ble_eq_true rfl) (Nat.le_of_ble_eq_true rfl) (by decide) (by decide) (c_layM (k := k) (sd := sd) f36 f38 f41 f42 RH WF (by omega)) (fun r h1 e5 => ?_)
    obtain ⟨e0, L4, g2, sm3⟩ := e5
    cases e0
    have f6 := sm3.at f37 (by decide)
    have f7 := sm3.at f38 (by decide)
    have sm8 := sm0.tr (sm3)
    obtain ⟨cv9, sv10, g11, g12, -⟩ := id L4
    refine x_aload_n dX12_spans_138 2 rfl ?_
    refine x_get (v := .ref 37) dX12_spans_139 fX12_7 g2 (by decide) rfl ?_
    refine x_iconst (v := 0) dX12_spans_142 (by decide) ?_
    refine x_ialdN (i := 0) dX12_spans_143 f6 (by decide) (by omega) (by decide) ?_
    rw [r1 0 (by omega)]
    refine x_istore (lv2 := [(8, .int (nI (s_tv s 0))), (7, .int (nI c)), (6, .int (nI acc)), (0, .ref 36), (1, .int (nI k)), (3, .int (nI hn2))]) dX12_spans_144 (by decide) rfl ?_
    refine x_perm [0, 2, 1, 3, 4, 5] rfl ?_
    refine lm_spIn W hk hsd WF hpd RH hw hw1 hw2 hh2 hsp r1 (show c ≤ 200 by omega) L4 g2 f6 f7 (s_tv s 1 + 1 - s_tv s 0) (s_tv s 0) acc rfl (by omega) (by omega) ?_
    refine x_iincN (lv2 := [(7, .int (nI (c + 1))), (6, .int (nI (acc + cntW (hoW (sR s t) (164 + 24 * k) sd c wn hn2) (s_tv s 1 + 1 - s_tv s 0) (s_tv s 0)))), (0, .ref 36), (1, .int (nI k)), (3, .int (nI hn2))]) dX12_spans_204 1 rfl (by decide) rfl ?_
    refine x_goto (tgt := 117) dX12_spans_207 (by decide) ?_
    refine x_perm [0, 1, 2, 3, 4] rfl ?_
    have hcn := cntW_le (hoW (sR s t) (164 + 24 * k) sd c wn hn2) (s_tv s 1 + 1 - s_tv s 0) (s_tv s 0)
    refine (ih (c + 1) _ _ _ _ h1 (by omega) (by omega) (by omega) g2 f6 f7 g11 g12).weaken (fun o ho => ⟨?_, ho.2.1, sm8.tr ho.2.2⟩)
    rw [ho.1, cntC, Nat.add_assoc]

theorem cntC_0 {f : Nat → Nat} (h : ∀ c, f c = 0) : ∀ {m c : Nat}, cntC f m c = 0
  | 0, _ => rfl
  | m + 1, c => by
    unfold cntC
    rw [h, cntC_0 h]

set_option maxRecDepth 100000 in
set_option maxHeartbeats 4000000 in
theorem m_spansS {G : GT} {h : List PE} {s : ST} {t : Int32} {k sd hn2 : Nat} (hM : MoR h s) (hW : WS s) (hk : k < (sC s t).2.1) (hsd : sd < 6) (hh2 : hn2 ≤ 30000) : CT G mX12_spans 4 89 [.ref 36, .int (nI k), .int (nI sd), .int (nI hn2), .int t] h (fun o => o.1 = some (.int (spSp (sR s t) (sC s t) (nI k) (nI sd) (nI hn2) (s_tn s) (s_tv s))) ∧ MoR o.2 (s_setTn s 0) ∧ Sm [36, 41, 42] h o.2) := by
  obtain ⟨thr, siz, too, frm, knd, num, sgn, plc, wrd, tld, now, lst, pfo, thk, are, ipd, mt, bk, dy, nm, cv, sv, k1, k2, k3, k4, k5, k6, k7, f36, f37, f38, f39, f40, f41, f42, f43, f44, f45, f46, f47, f48, f49, r1, r2, r3⟩ := hM
  have W := hW.cur t
  have hm : MB (s_n s) dy bk (s_dy s) (s_rc s) := ⟨hW.1, r2⟩
  have w4 := W.2.2.2.1
  obtain ⟨b, hlb⟩ := curC_some (n := s_n s) (sdy := s_dy s) (ct := s_ct s) (t := t) hk
  have RH : 484 * b + 484 ≤ 10164 ∧ ∀ j, j < 484 → bk (484 * b + j) = sR s t j := hm.rh hlb
  have WT := W.2.2.2.2.2.2.2.2.2.1 k hk
  have ck : tO (nI k) = 164 + 24 * k := by show 164 + 24 * (nI k).toNatClampNeg = _; rw [nI_clamp (by omega)]
  have cs : (nI sd).toNatClampNeg = sd := nI_clamp (by omega)
  obtain ⟨⟨wn, hw, hw1, hw2⟩, -⟩ := id WT
  have hw9 := nI_one hw1 (show wn < 2 ^ 31 by omega)
  rw [← hw] at hw9
  have nb1 : ¬ bT (sC s t) (nI k) := fun q => q.elim (nI_pos (by omega)) (fun q => absurd ((nI_leI (by omega) (by omega)).mp q) (by omega))
  have nb2 : ¬ bS (nI sd) := fun q => q.elim (nI_pos (by omega)) (fun q => absurd ((nI_leI (a := 6) (by decide) (by omega)).mp q) (by omega))
  have htn := hW.2.2.1
  have htv := hW.2.2.2.1
  have hH : ¬ bH (nI hn2) := fun q => q.elim (nI_pos (by omega)) (fun q => absurd ((nI_ltI (a := 30000) (by decide) (by omega)).mp q) (by omega))
  have hok : ¬ (bT (sC s t) (nI k) ∨ bS (nI sd) ∨ bH (nI hn2)) := fun q => q.elim nb1 (fun q => q.elim nb2 hH)
  have sm0 : Sm [36, 41, 42] h h := Sm.rf
  show X (NF G) G mX12_spans 4 89 0 [(0, .ref 36), (1, .int (nI k)), (2, .int (nI sd)), (3, .int (nI hn2)), (4, .int t)] [] h _
  refine x_aload_n dX12_spans_0 0 rfl ?_
  refine x_iconst (v := 0) dX12_spans_1 (by decide) ?_
  refine x_put (fs2 := (MO 0 ((nI (s_tn s))) ((nI (s_td s))) ((nI (s_n s))) siz too frm knd num sgn ((s_fl s)) plc wrd tld now lst pfo thk are ((s_br s)) ipd ((s_bs s)))) dX12_spans_2 fX12_55 (Or.inl rfl) f36 (by decide) rfl rfl (Nat.le_of_ble_eq_true rfl) rfl (fun h101 a102 e103 l104 s105 => ?_)
  have f106 := (e103 37 (by decide)).trans f37
  have f107 := (e103 38 (by decide)).trans f38
  have f108 := (e103 39 (by decide)).trans f39
  have f109 := (e103 41 (by decide)).trans f41
  have f110 := (e103 42 (by decide)).trans f42
  have sm111 := Sm.put sm0 e103 l104 s105 (by decide)
  refine x_aload_n dX12_spans_5 0 rfl ?_
  refine x_callV (rf' := 0) (rl' := 0) [] [] dX12_spans_6 vX12_201 Y_X12_take a102 (by decide) rfl rfl (Nat.le_of_ble_eq_true rfl) (Nat.le_of_ble_eq_true rfl) (by decide) (by decide) (c_take a102) (fun r h112 e1 => ?_)
  obtain ⟨e0, g113, sm114⟩ := e1
  cases e0
  have f115 := sm114.at f106 (by decide)
  have f116 := sm114.at f107 (by decide)
  have f117 := sm114.at f108 (by decide)
  have f118 := sm114.at f109 (by decide)
  have f119 := sm114.at f110 (by decide)
  have sm120 := sm111.tr (sm114.wide (by decide))
  refine x_istore (lv2 := [(5, .int (nI (s_tn s))), (0, .ref 36), (1, .int (nI k)), (2, .int (nI sd)), (3, .int (nI hn2)), (4, .int t)]) dX12_spans_9 (by decide) rfl ?_
  refine x_iload dX12_spans_11 0 rfl ?_
  refine x_iconst (v := 4) dX12_spans_13 (by decide) ?_
  refine x_icmp_neN (tgt := 29) (a := (s_tn s)) (b := 4) (by omega) (by omega) dX12_spans_14 (by decide) (fun c_14 => ?_) (fun c_14 => ?_)
  · refine x_iconst (v := (-1)) dX12_spans_29 (by decide) ?_
    exact x_iret dX12_spans_30 rfl ⟨by rw [spSp, if_pos (Or.inr (Or.inr (Or.inr (fun z : tSp (s_tn s) (s_tv s) => c_14 z.1))))], (moR (s := s_setTn s 0) g113 f115 f116 f117 (sm120.at f40 (by decide)) f118 f119 (sm120.at f43 (by decide)) (sm120.at f44 (by decide)) (sm120.at f45 (by decide)) (sm120.at f46 (by decide)) (sm120.at f47 (by decide)) (sm120.at f48 (by decide)) (sm120.at f49 (by decide)) (fun j hj => absurd hj (Nat.not_lt_zero j)) r2 r3), sm120⟩
  · refine x_aload_n dX12_spans_17 1 rfl ?_
    refine x_iload_n dX12_spans_18 2 rfl ?_
    refine x_iload_n dX12_spans_19 3 rfl ?_
    refine x_iload_n dX12_spans_20 4 rfl ?_
    refine x_iload dX12_spans_21 5 rfl ?_
    have hb0 := htv 0 (by omega)
    have hb1 := htv 1 (by omega)
    have hb2 := htv 2 (by omega)
    have hb3 := htv 3 (by omega)
    refine x_callV (rf' := 3) (rl' := 65) [.int (nI k), .int (nI sd), .int (nI hn2), .int t] [] dX12_spans_23 vX12_248 Y_X12_isDropped g113 (by decide) rfl rfl (Nat.le_of_ble_eq_true rfl) (Nat.le_of_ble_eq_true rfl) (by decide) (by decide) (c_isDropped g113 f116 f117 hm W) (fun r h121 e1 => ?_)
    obtain ⟨e0, g122, sm123⟩ := e1
    cases e0
    rw [if_neg hok]
    rw [hlb] at g122
    have g122 : h121[36]? = some (cO 12 (MO 0 0 ((nI (s_td s))) ((nI (s_n s))) siz too frm knd num sgn ((s_fl s)) plc wrd tld ((nI (484 * b))) lst pfo thk are ((s_br s)) ipd ((s_bs s)))) := g122
    have f124 := sm123.at f115 (by decide)
    have f125 := sm123.at f116 (by decide)
    have f126 := sm123.at f117 (by decide)
    have f127 := sm123.at f118 (by decide)
    have f128 := sm123.at f119 (by decide)
    have sm129 := sm120.tr (sm123.wide (by decide))
    refine x_if_ne (tgt := 31) dX12_spans_26 (by decide) (fun c_26 => ?_) (fun c_26 => absurd c_26 (by decide))
    refine x_aload_n dX12_spans_31 1 rfl ?_
    refine x_get (v := .ref 37) dX12_spans_32 fX12_7 g122 (by decide) rfl ?_
    refine x_iconst (v := 0) dX12_spans_35 (by decide) ?_
    refine x_ialdN (i := 0) dX12_spans_36 f124 (by decide) (by omega) (by decide) ?_
    refine x_iconst (v := 1) dX12_spans_37 (by decide) ?_
    refine x_aload_n dX12_spans_38 1 rfl ?_
    refine x_get (v := .ref 37) dX12_spans_39 fX12_7 g122 (by decide) rfl ?_
    refine x_iconst (v := 1) dX12_spans_42 (by decide) ?_
    refine x_ialdN (i := 1) dX12_spans_43 f124 (by decide) (by omega) (by decide) ?_
    rw [r1 0 (by omega), r1 1 (by omega)]
    refine x_callS (rf' := 0) (rl' := 0) [.int (nI (s_tv s 0)), .int 1, .int (nI (s_tv s 1))] [] dX12_spans_44 vX12_65 Y_X12_isIn rfl rfl (Nat.le_of_ble_eq_true rfl) (Nat.le_of_ble_eq_true rfl) (by decide) (by decide) c_isIn (fun _ _ e130 => ?_)
    cases e130
    by_cases hA : 1 ≤ s_tv s 0 ∧ s_tv s 0 ≤ s_tv s 1
    · rw [if_neg (fun q => q.elim (fun q => absurd ((nI_ltI (b := 1) (by omega) (by decide)).mp q) (by omega)) (fun q => absurd ((nI_ltI (by omega) (by omega)).mp q) (by omega)))]
      refine x_if_eq (tgt := 93) dX12_spans_47 (by decide) (fun c_47 => absurd c_47 (by decide)) (fun c_47 => ?_)
      refine x_aload_n dX12_spans_50 1 rfl ?_
      refine x_get (v := .ref 37) dX12_spans_51 fX12_7 g122 (by decide) rfl ?_
      refine x_iconst (v := 1) dX12_spans_54 (by decide) ?_
      refine x_ialdN (i := 1) dX12_spans_55 f124 (by decide) (by omega) (by decide) ?_
      rw [r1 1 (by omega)]
      refine x_sipush (v := 200) dX12_spans_56 (by decide) ?_
      refine x_icmp_gtN (tgt := 93) (a := (s_tv s 1)) (b := 200) (by omega) (by omega) dX12_spans_59 (by decide) (fun c_59 => ?_) (fun c_59 => ?_)
      · refine x_iconst (v := (-1)) dX12_spans_93 (by decide) ?_
        exact x_iret dX12_spans_94 rfl ⟨by rw [spSp, if_pos (Or.inr (Or.inr (Or.inr (fun z : tSp (s_tn s) (s_tv s) => absurd z.2.1.2.2 (by omega)))))], (moR (s := s_setTn s 0) g122 f124 f125 f126 (sm129.at f40 (by decide)) f127 f128 (sm129.at f43 (by decide)) (sm129.at f44 (by decide)) (sm129.at f45 (by decide)) (sm129.at f46 (by decide)) (sm129.at f47 (by decide)) (sm129.at f48 (by decide)) (sm129.at f49 (by decide)) (fun j hj => absurd hj (Nat.not_lt_zero j)) r2 r3), sm129⟩
      · refine x_aload_n dX12_spans_62 1 rfl ?_
        refine x_get (v := .ref 37) dX12_spans_63 fX12_7 g122 (by decide) rfl ?_
        refine x_iconst (v := 2) dX12_spans_66 (by decide) ?_
        refine x_ialdN (i := 2) dX12_spans_67 f124 (by decide) (by omega) (by decide) ?_
        refine x_iconst (v := 1) dX12_spans_68 (by decide) ?_
        refine x_aload_n dX12_spans_69 1 rfl ?_
        refine x_get (v := .ref 37) dX12_spans_70 fX12_7 g122 (by decide) rfl ?_
        refine x_iconst (v := 3) dX12_spans_73 (by decide) ?_
        refine x_ialdN (i := 3) dX12_spans_74 f124 (by decide) (by omega) (by decide) ?_
        rw [r1 2 (by omega), r1 3 (by omega)]
        refine x_callS (rf' := 0) (rl' := 0) [.int (nI (s_tv s 2)), .int 1, .int (nI (s_tv s 3))] [] dX12_spans_75 vX12_65 Y_X12_isIn rfl rfl (Nat.le_of_ble_eq_true rfl) (Nat.le_of_ble_eq_true rfl) (by decide) (by decide) c_isIn (fun _ _ e131 => ?_)
        cases e131
        by_cases hB : 1 ≤ s_tv s 2 ∧ s_tv s 2 ≤ s_tv s 3
        · rw [if_neg (fun q => q.elim (fun q => absurd ((nI_ltI (b := 1) (by omega) (by decide)).mp q) (by omega)) (fun q => absurd ((nI_ltI (by omega) (by omega)).mp q) (by omega)))]
          refine x_if_eq (tgt := 93) dX12_spans_78 (by decide) (fun c_78 => absurd c_78 (by decide)) (fun c_78 => ?_)
          refine x_aload_n dX12_spans_81 1 rfl ?_
          refine x_get (v := .ref 37) dX12_spans_82 fX12_7 g122 (by decide) rfl ?_
          refine x_iconst (v := 3) dX12_spans_85 (by decide) ?_
          refine x_ialdN (i := 3) dX12_spans_86 f124 (by decide) (by omega) (by decide) ?_
          rw [r1 3 (by omega)]
          refine x_sipush (v := 200) dX12_spans_87 (by decide) ?_
          refine x_icmp_leN (tgt := 95) (a := (s_tv s 3)) (b := 200) (by omega) (by omega) dX12_spans_90 (by decide) (fun c_90 => ?_) (fun c_90 => ?_)
          · refine x_aload_n dX12_spans_95 1 rfl ?_
            refine x_iload_n dX12_spans_96 2 rfl ?_
            refine x_iload_n dX12_spans_97 3 rfl ?_
            refine x_callV (rf' := 1) (rl' := 21) [.int (nI k), .int (nI sd)] [] dX12_spans_98 vX12_252 Y_X12_takePad g122 (by decide) rfl rfl (Nat.le_of_ble_eq_true rfl) (Nat.le_of_ble_eq_true rfl) (by decide) (by decide) (c_takePad g122 f125 RH (by omega) hsd) (fun r h132 e1 => ?_)
            obtain ⟨e0, g133, sm134⟩ := e1
            cases e0
            have f135 := sm134.at f124 (by decide)
            have f136 := sm134.at f125 (by decide)
            have f137 := sm134.at f126 (by decide)
            have f138 := sm134.at f127 (by decide)
            have f139 := sm134.at f128 (by decide)
            have sm140 := sm129.tr (sm134.wide (by decide))
            rcases pd_wf WT W.2.1 hsd with ⟨hpd, hp0⟩ | ⟨kf, hpd, hkf, hp0⟩
            · rw [if_pos (by rw [hp0]; decide)]
              refine x_if_ne (tgt := 106) dX12_spans_101 (by decide) (fun c_101 => absurd (by decide) c_101) (fun c_101 => ?_)
              refine x_iconst (v := 0) dX12_spans_104 (by decide) ?_
              exact x_iret dX12_spans_105 rfl ⟨by rw [spSp, if_neg (fun q => q.elim nb1 (fun q => q.elim nb2 (fun q => q.elim hH (fun q => q ⟨by omega, ⟨hA.1, hA.2, by omega⟩, hB.1, hB.2, by omega⟩)))), ck, cs, cntC_0 (fun c => cntW_0 _ _ (fun j _ => by show WI _ _ _ _ _ _ _ = false; unfold WI bN; rw [hpd]))]; rfl, (moR (s := s_setTn s 0) g133 f135 f136 f137 (sm140.at f40 (by decide)) f138 f139 (sm140.at f43 (by decide)) (sm140.at f44 (by decide)) (sm140.at f45 (by decide)) (sm140.at f46 (by decide)) (sm140.at f47 (by decide)) (sm140.at f48 (by decide)) (sm140.at f49 (by decide)) (fun j hj => absurd hj (Nat.not_lt_zero j)) r2 r3), sm140⟩
            · rw [hp0, show nI (kf + 1) - 1 = nI kf from nI_pred kf] at g133 ⊢
              rw [if_neg (nI_pos (by have := W.2.1; omega))]
              obtain ⟨np, P, U, ke, pr, WF⟩ := W.2.2.2.2.2.2.2.2.1 kf hkf
              have WF := WF.canon
              have w8 := W.2.1
              refine x_if_ne (tgt := 106) dX12_spans_101 (by decide) (fun c_101 => ?_) (fun c_101 => absurd c_101 (by decide))
              refine x_iconst (v := 0) dX12_spans_106 (by decide) ?_
              refine x_istore (lv2 := [(6, .int 0), (5, .int (nI (s_tn s))), (0, .ref 36), (1, .int (nI k)), (2, .int (nI sd)), (3, .int (nI hn2)), (4, .int t)]) dX12_spans_107 (by decide) rfl ?_
              refine x_aload_n dX12_spans_109 2 rfl ?_
              refine x_get (v := .ref 37) dX12_spans_110 fX12_7 g133 (by decide) rfl ?_
              refine x_iconst (v := 2) dX12_spans_113 (by decide) ?_
              refine x_ialdN (i := 2) dX12_spans_114 f135 (by decide) (by omega) (by decide) ?_
              refine x_istore (lv2 := [(7, .int (mt 2)), (6, .int 0), (5, .int (nI (s_tn s))), (0, .ref 36), (1, .int (nI k)), (2, .int (nI sd)), (3, .int (nI hn2)), (4, .int t)]) dX12_spans_115 (by decide) rfl ?_
              rw [r1 2 (by omega)]
              refine x_perm [0, 1, 3, 4, 6] rfl ?_
              have hS : tSp (s_tn s) (s_tv s) := ⟨by omega, ⟨hA.1, hA.2, by omega⟩, hB.1, hB.2, by omega⟩
              refine (lm_spOut W hk hsd WF hpd RH hw hw1 hw2 hh2 hS r1 (by omega) (s_tv s 3 + 1 - s_tv s 2) (s_tv s 2) 0 _ _ _ h132 rfl (by omega) (by omega) g133 f135 f136 f138 f139).weaken (fun o ho => ?_)
              obtain ⟨o1, ⟨lst2, cv2, sv2, o2, o3, o4⟩, o5⟩ := ho
              have sm9 := sm140.tr o5
              refine ⟨?_, (moR (s := s_setTn s 0) o2 (sm9.at f37 (by decide)) (sm9.at f38 (by decide)) (sm9.at f39 (by decide)) (sm9.at f40 (by decide)) o3 o4 (sm9.at f43 (by decide)) (sm9.at f44 (by decide)) (sm9.at f45 (by decide)) (sm9.at f46 (by decide)) (sm9.at f47 (by decide)) (sm9.at f48 (by decide)) (sm9.at f49 (by decide)) (fun j hj => absurd hj (Nat.not_lt_zero j)) r2 r3), sm9⟩
              rw [o1, spSp, if_neg (fun q => q.elim nb1 (fun q => q.elim nb2 (fun q => q.elim hH (fun q => q hS)))), ck, cs, hw, nI_clamp (show wn < 2 ^ 31 by omega), nI_clamp (show hn2 < 2 ^ 31 by omega), Nat.zero_add]
          · refine x_iconst (v := (-1)) dX12_spans_93 (by decide) ?_
            exact x_iret dX12_spans_94 rfl ⟨by rw [spSp, if_pos (Or.inr (Or.inr (Or.inr (fun z : tSp (s_tn s) (s_tv s) => absurd z.2.2.2.2 (by omega)))))], (moR (s := s_setTn s 0) g122 f124 f125 f126 (sm129.at f40 (by decide)) f127 f128 (sm129.at f43 (by decide)) (sm129.at f44 (by decide)) (sm129.at f45 (by decide)) (sm129.at f46 (by decide)) (sm129.at f47 (by decide)) (sm129.at f48 (by decide)) (sm129.at f49 (by decide)) (fun j hj => absurd hj (Nat.not_lt_zero j)) r2 r3), sm129⟩
        · rw [if_pos (show nI (s_tv s 2) < 1 ∨ nI (s_tv s 3) < nI (s_tv s 2) from (Classical.em (1 ≤ s_tv s 2)).elim (fun z => Or.inr ((nI_ltI (by omega) (by omega)).mpr (by omega))) (fun z => Or.inl ((nI_ltI (b := 1) (by omega) (by decide)).mpr (by omega))))]
          refine x_if_eq (tgt := 93) dX12_spans_78 (by decide) (fun c_78 => ?_) (fun c_78 => absurd (by decide) c_78)
          refine x_iconst (v := (-1)) dX12_spans_93 (by decide) ?_
          exact x_iret dX12_spans_94 rfl ⟨by rw [spSp, if_pos (Or.inr (Or.inr (Or.inr (fun z : tSp (s_tn s) (s_tv s) => hB ⟨z.2.2.1, z.2.2.2.1⟩))))], (moR (s := s_setTn s 0) g122 f124 f125 f126 (sm129.at f40 (by decide)) f127 f128 (sm129.at f43 (by decide)) (sm129.at f44 (by decide)) (sm129.at f45 (by decide)) (sm129.at f46 (by decide)) (sm129.at f47 (by decide)) (sm129.at f48 (by decide)) (sm129.at f49 (by decide)) (fun j hj => absurd hj (Nat.not_lt_zero j)) r2 r3), sm129⟩
    · rw [if_pos (show nI (s_tv s 0) < 1 ∨ nI (s_tv s 1) < nI (s_tv s 0) from (Classical.em (1 ≤ s_tv s 0)).elim (fun z => Or.inr ((nI_ltI (by omega) (by omega)).mpr (by omega))) (fun z => Or.inl ((nI_ltI (b := 1) (by omega) (by decide)).mpr (by omega))))]
      refine x_if_eq (tgt := 93) dX12_spans_47 (by decide) (fun c_47 => ?_) (fun c_47 => absurd (by decide) c_47)
      refine x_iconst (v := (-1)) dX12_spans_93 (by decide) ?_
      exact x_iret dX12_spans_94 rfl ⟨by rw [spSp, if_pos (Or.inr (Or.inr (Or.inr (fun z : tSp (s_tn s) (s_tv s) => hA ⟨z.2.1.1, z.2.1.2.1⟩))))], (moR (s := s_setTn s 0) g122 f124 f125 f126 (sm129.at f40 (by decide)) f127 f128 (sm129.at f43 (by decide)) (sm129.at f44 (by decide)) (sm129.at f45 (by decide)) (sm129.at f46 (by decide)) (sm129.at f47 (by decide)) (sm129.at f48 (by decide)) (sm129.at f49 (by decide)) (fun j hj => absurd hj (Nat.not_lt_zero j)) r2 r3), sm129⟩

theorem m_spans {G : GT} {h : List PE} {s : ST} {t : Int32} {th sd hh : Int32} (hM : MoR h s) (hW : WS s) : CT G mX12_spans 4 89 [.ref 36, .int th, .int sd, .int hh, .int t] h (fun o => o.1 = some (.int (spSp (sR s t) (sC s t) th sd hh (s_tn s) (s_tv s))) ∧ MoR o.2 (s_setTn s 0) ∧ Sm [36, 41, 42] h o.2) := by
  by_cases h1 : bT (sC s t) th ∨ bS sd ∨ bH hh
  · exact m_spansN hM hW h1
  · have W := hW.cur t
    obtain ⟨k, hk, rfl⟩ := ix_of (by have := W.2.2.2.1; omega) (fun q => h1 (Or.inl q))
    obtain ⟨d, hd, rfl⟩ := ix_of (m := 6) (by decide) (fun q => h1 (Or.inr (Or.inl q)))
    obtain ⟨hn2, hh2, rfl⟩ := ix_le (m := 30000) (by decide) (fun q => h1 (Or.inr (Or.inr q)))
    exact m_spansS hM hW hk hd hh2

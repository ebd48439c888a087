theorem moR {h : List PE} {s : ST} {thr siz too frm knd num sgn plc : Int32} {wrd : Int64} {tld now lst pfo thk are ipd : Int32} {mt bk dy : Nat → Int32} {nm : Nat → Int64} {cv : Nat → Int32} {sv : Nat → Int64} {k1 k2 k3 k4 k5 k6 k7 : Nat → Int32}
  (a36 : h[36]? = some (cO 12 (MO thr (nI (s_tn s)) (nI (s_td s)) (nI (s_n s)) siz too frm knd num sgn (s_fl s) plc wrd tld now lst pfo thk are (s_br s) ipd (s_bs s)))) (a37 : h[37]? = some (cI 640 mt)) (a38 : h[38]? = some (cI 10164 bk)) (a39 : h[39]? = some (cI 20 dy)) (a40 : h[40]? = some (cJ 24 nm)) (a41 : h[41]? = some (cI 96 cv)) (a42 : h[42]? = some (cJ 96 sv)) (a43 : h[43]? = some (cI 6 k1)) (a44 : h[44]? = some (cI 10 k2)) (a45 : h[45]? = some (cI 10 k3)) (a46 : h[46]? = some (cI 10 k4)) (a47 : h[47]? = some (cI 6 k5)) (a48 : h[48]? = some (cI 6 k6)) (a49 : h[49]? = some (cZ 10 k7))
  (r1 : ∀ j, j < s_tn s → mt j = nI (s_tv s j)) (r2 : ∀ k, k < s_n s → dy k = s_dy s k ∧ ∀ j, j < 484 → bk (484 * k + j) = s_rc s k j) (r3 : ipd = 0 ∧ (∀ j, j < 6 → s_pk s j = -1) ∨ ipd = 1 ∧ ∀ j, j < 6 → k5 j = s_pk s j) : MoR h s := ⟨thr, siz, too, frm, knd, num, sgn, plc, wrd, tld, now, lst, pfo, thk, are, ipd, mt, bk, dy, nm, cv, sv, k1, k2, k3, k4, k5, k6, k7, a36, a37, a38, a39, a40, a41, a42, a43, a44, a45, a46, a47, a48, a49, r1, r2, r3⟩
/-- the book AS OF t of a told state -/
abbrev sR (s : ST) (t : Int32) : Nat → Int32 := curR (s_n s) (s_dy s) (s_rc s) t
abbrev sC (s : ST) (t : Int32) : Nat × Nat × Nat × Nat := curC (s_n s) (s_dy s) (s_ct s) t
theorem WS.cur {s : ST} (h : WS s) (t : Int32) : WFk (sR s t) (sC s t) := cur_wf h.2.2.2.2

set_option maxRecDepth 100000 in
set_option maxHeartbeats 4000000 in
theorem m_squeezeN {G : GT} {h : List PE} {s : ST} {t : Int32} {th sd hh kt : Int32} (hM : MoR h s) (hW : WS s) (hbad : bT (sC s t) th ∨ bS sd ∨ bH hh) : CT G mX12_squeeze 4 89 [.ref 36, .int th, .int sd, .int hh, .int kt, .int t] h (fun o => o.1 = some (.int (spSq (sR s t) (sC s t) th sd hh kt)) ∧ MoR o.2 s ∧ Sm [36, 41, 42] h o.2) := by
  obtain ⟨thr, siz, too, frm, knd, num, sgn, plc, wrd, tld, now, lst, pfo, thk, are, ipd, mt, bk, dy, nm, cv, sv, k1, k2, k3, k4, k5, k6, k7, f36, f37, f38, f39, f40, f41, f42, f43, f44, f45, f46, f47, f48, f49, r1, r2, r3⟩ := hM
  have W := hW.cur t
  have hm : MB (s_n s) dy bk (s_dy s) (s_rc s) := ⟨hW.1, r2⟩
  have sm0 : Sm [36, 41, 42] h h := Sm.rf
  show X (NF G) G mX12_squeeze 4 89 0 [(0, .ref 36), (1, .int th), (2, .int sd), (3, .int hh), (4, .int kt), (5, .int t)] [] h _
  refine x_aload_n dX12_squeeze_0 0 rfl ?_
  refine x_iconst (v := 0) dX12_squeeze_1 (by decide) ?_
  refine x_put (fs2 := (MO 0 ((nI (s_tn s))) ((nI (s_td s))) ((nI (s_n s))) siz too frm knd num sgn ((s_fl s)) plc wrd tld now lst pfo thk are ((s_br s)) ipd ((s_bs s)))) dX12_squeeze_2 fX12_55 (Or.inl rfl) f36 (by decide) rfl rfl (Nat.le_of_ble_eq_true rfl) rfl (fun h1 a2 e3 l4 s5 => ?_)
  have f6 := (e3 38 (by decide)).trans f38
  have f7 := (e3 39 (by decide)).trans f39
  have f8 := (e3 41 (by decide)).trans f41
  have f9 := (e3 42 (by decide)).trans f42
  have sm10 := Sm.put sm0 e3 l4 s5 (by decide)
  refine x_aload_n dX12_squeeze_5 0 rfl ?_
  refine x_iload_n dX12_squeeze_6 1 rfl ?_
  refine x_iload_n dX12_squeeze_7 2 rfl ?_
  refine x_iload_n dX12_squeeze_8 3 rfl ?_
  refine x_iload dX12_squeeze_9 5 rfl ?_
  refine x_callV (rf' := 3) (rl' := 65) [.int th, .int sd, .int hh, .int t] [] dX12_squeeze_11 vX12_248 Y_X12_isDropped a2 (by decide) rfl rfl (Nat.le_of_ble_eq_true rfl) (Nat.le_of_ble_eq_true rfl) (by decide) (by decide) (c_isDropped a2 f6 f7 hm W) (fun r h11 e1 => ?_)
  obtain ⟨e0, g12, sm13⟩ := e1
  cases e0
  rw [if_pos hbad]
  have f14 := sm13.at f6 (by decide)
  have f15 := sm13.at f7 (by decide)
  have f16 := sm13.at f8 (by decide)
  have f17 := sm13.at f9 (by decide)
  have sm18 := sm10.tr (sm13.wide (by decide))
  refine x_if_eq (tgt := 29) dX12_squeeze_14 (by decide) (fun c_14 => ?_) (fun c_14 => absurd (by decide) c_14)
  refine x_iconst (v := (-1)) dX12_squeeze_29 (by decide) ?_
  exact x_iret dX12_squeeze_30 rfl ⟨by rw [spSq, if_pos (hbad.elim Or.inl (fun q => Or.inr (q.elim Or.inl (fun q => Or.inr (Or.inl q)))))], (moR g12 (sm18.at f37 (by decide)) (sm18.at f38 (by decide)) (sm18.at f39 (by decide)) (sm18.at f40 (by decide)) f16 f17 (sm18.at f43 (by decide)) (sm18.at f44 (by decide)) (sm18.at f45 (by decide)) (sm18.at f46 (by decide)) (sm18.at f47 (by decide)) (sm18.at f48 (by decide)) (sm18.at f49 (by decide)) r1 r2 r3), sm18⟩

set_option maxRecDepth 100000 in
set_option maxHeartbeats 4000000 in
theorem m_squeezeS {G : GT} {h : List PE} {s : ST} {t : Int32} {k sd : Nat} {hh kt : Int32} (hM : MoR h s) (hW : WS s) (hk : k < (sC s t).2.1) (hsd : sd < 6) (hH : ¬ bH hh) : CT G mX12_squeeze 4 89 [.ref 36, .int (nI k), .int (nI sd), .int hh, .int kt, .int t] h (fun o => o.1 = some (.int (spSq (sR s t) (sC s t) (nI k) (nI sd) hh kt)) ∧ MoR o.2 s ∧ Sm [36, 41, 42] h o.2 ∧ (bK kt ∨ pdF (sR s t) (164 + 24 * k) sd = none ∨ ∃ kf, pdF (sR s t) (164 + 24 * k) sd = some kf ∧ WFc (sR s t) (4 + 20 * kf) ∧ kf < 8 ∧ MLaid o.2 (sR s t) k sd kf kt ∧ ∃ (thr siz too frm knd num sgn plc : Int32) (wrd : Int64) (tld lst pfo thk ipd : Int32) (b : Nat), lastB (s_dy s) t (s_n s) = some b ∧ o.2[36]? = some (cO 12 (MO thr ((nI (s_tn s))) ((nI (s_td s))) ((nI (s_n s))) siz too frm knd num sgn ((s_fl s)) plc wrd tld ((nI (484 * b))) lst pfo thk (((sR s t) (164 + 24 * k + 5 + 3 * sd + 2))) ((s_br s)) ipd ((s_bs s)))))) := by
  obtain ⟨thr, siz, too, frm, knd, num, sgn, plc, wrd, tld, now, lst, pfo, thk, are, ipd, mt, bk, dy, nm, cv, sv, k1, k2, k3, k4, k5, k6, k7, f36, f37, f38, f39, f40, f41, f42, f43, f44, f45, f46, f47, f48, f49, r1, r2, r3⟩ := hM
  have W := hW.cur t
  have hm : MB (s_n s) dy bk (s_dy s) (s_rc s) := ⟨hW.1, r2⟩
  have w4 := W.2.2.2.1
  obtain ⟨b, hlb⟩ := curC_some (n := s_n s) (sdy := s_dy s) (ct := s_ct s) (t := t) hk
  have RH : 484 * b + 484 ≤ 10164 ∧ ∀ j, j < 484 → bk (484 * b + j) = sR s t j := hm.rh hlb
  have WT := W.2.2.2.2.2.2.2.2.2.1 k hk
  have ck : tO (nI k) = 164 + 24 * k := by show 164 + 24 * (nI k).toNatClampNeg = _; rw [nI_clamp (by omega)]
  have cs : (nI sd).toNatClampNeg = sd := nI_clamp (by omega)
  obtain ⟨⟨wn, hw, hw1, hw2⟩, -⟩ := id WT
  have hw9 := nI_one hw1 (show wn < 2 ^ 31 by omega)
  rw [← hw] at hw9
  have nb1 : ¬ bT (sC s t) (nI k) := fun q => q.elim (nI_pos (by omega)) (fun q => absurd ((nI_leI (by omega) (by omega)).mp q) (by omega))
  have nb2 : ¬ bS (nI sd) := fun q => q.elim (nI_pos (by omega)) (fun q => absurd ((nI_leI (a := 6) (by decide) (by omega)).mp q) (by omega))
  have hok : ¬ (bT (sC s t) (nI k) ∨ bS (nI sd) ∨ bH hh) := fun q => q.elim nb1 (fun q => q.elim nb2 hH)
  have sm0 : Sm [36, 41, 42] h h := Sm.rf
  show X (NF G) G mX12_squeeze 4 89 0 [(0, .ref 36), (1, .int (nI k)), (2, .int (nI sd)), (3, .int hh), (4, .int kt), (5, .int t)] [] h _
  refine x_aload_n dX12_squeeze_0 0 rfl ?_
  refine x_iconst (v := 0) dX12_squeeze_1 (by decide) ?_
  refine x_put (fs2 := (MO 0 ((nI (s_tn s))) ((nI (s_td s))) ((nI (s_n s))) siz too frm knd num sgn ((s_fl s)) plc wrd tld now lst pfo thk are ((s_br s)) ipd ((s_bs s)))) dX12_squeeze_2 fX12_55 (Or.inl rfl) f36 (by decide) rfl rfl (Nat.le_of_ble_eq_true rfl) rfl (fun h1 a2 e3 l4 s5 => ?_)
  have f6 := (e3 38 (by decide)).trans f38
  have f7 := (e3 39 (by decide)).trans f39
  have f8 := (e3 41 (by decide)).trans f41
  have f9 := (e3 42 (by decide)).trans f42
  have sm10 := Sm.put sm0 e3 l4 s5 (by decide)
  refine x_aload_n dX12_squeeze_5 0 rfl ?_
  refine x_iload_n dX12_squeeze_6 1 rfl ?_
  refine x_iload_n dX12_squeeze_7 2 rfl ?_
  refine x_iload_n dX12_squeeze_8 3 rfl ?_
  refine x_iload dX12_squeeze_9 5 rfl ?_
  refine x_callV (rf' := 3) (rl' := 65) [.int (nI k), .int (nI sd), .int hh, .int t] [] dX12_squeeze_11 vX12_248 Y_X12_isDropped a2 (by decide) rfl rfl (Nat.le_of_ble_eq_true rfl) (Nat.le_of_ble_eq_true rfl) (by decide) (by decide) (c_isDropped a2 f6 f7 hm W) (fun r h11 e1 => ?_)
  obtain ⟨e0, g12, sm13⟩ := e1
  cases e0
  rw [if_neg hok]
  rw [hlb] at g12
  have g12 : h11[36]? = some (cO 12 (MO 0 ((nI (s_tn s))) ((nI (s_td s))) ((nI (s_n s))) siz too frm knd num sgn ((s_fl s)) plc wrd tld ((nI (484 * b))) lst pfo thk are ((s_br s)) ipd ((s_bs s)))) := g12
  have f14 := sm13.at f6 (by decide)
  have f15 := sm13.at f7 (by decide)
  have f16 := sm13.at f8 (by decide)
  have f17 := sm13.at f9 (by decide)
  have sm18 := sm10.tr (sm13.wide (by decide))
  refine x_if_eq (tgt := 29) dX12_squeeze_14 (by decide) (fun c_14 => absurd c_14 (by decide)) (fun c_14 => ?_)
  refine x_iload dX12_squeeze_17 4 rfl ?_
  refine x_iconst (v := 0) dX12_squeeze_19 (by decide) ?_
  refine x_sipush (v := 200) dX12_squeeze_20 (by decide) ?_
  refine x_callS (rf' := 0) (rl' := 0) [.int kt, .int 0, .int 200] [] dX12_squeeze_23 vX12_65 Y_X12_isIn rfl rfl (Nat.le_of_ble_eq_true rfl) (Nat.le_of_ble_eq_true rfl) (by decide) (by decide) c_isIn (fun _ _ e19 => ?_)
  cases e19
  by_cases hK : bK kt
  · rw [if_pos hK]
    refine x_if_ne (tgt := 31) dX12_squeeze_26 (by decide) (fun c_26 => absurd (by decide) c_26) (fun c_26 => ?_)
    refine x_iconst (v := (-1)) dX12_squeeze_29 (by decide) ?_
    exact x_iret dX12_squeeze_30 rfl ⟨by rw [spSq, if_pos (Or.inr (Or.inr (Or.inr hK)))], (moR g12 (sm18.at f37 (by decide)) (sm18.at f38 (by decide)) (sm18.at f39 (by decide)) (sm18.at f40 (by decide)) f16 f17 (sm18.at f43 (by decide)) (sm18.at f44 (by decide)) (sm18.at f45 (by decide)) (sm18.at f46 (by decide)) (sm18.at f47 (by decide)) (sm18.at f48 (by decide)) (sm18.at f49 (by decide)) r1 r2 r3), sm18, Or.inl hK⟩
  · rw [if_neg hK]
    refine x_if_ne (tgt := 31) dX12_squeeze_26 (by decide) (fun c_26 => ?_) (fun c_26 => absurd c_26 (by decide))
    refine x_aload_n dX12_squeeze_31 0 rfl ?_
    refine x_iload_n dX12_squeeze_32 1 rfl ?_
    refine x_iload_n dX12_squeeze_33 2 rfl ?_
    refine x_callV (rf' := 1) (rl' := 21) [.int (nI k), .int (nI sd)] [] dX12_squeeze_34 vX12_252 Y_X12_takePad g12 (by decide) rfl rfl (Nat.le_of_ble_eq_true rfl) (Nat.le_of_ble_eq_true rfl) (by decide) (by decide) (c_takePad g12 f14 RH (by omega) hsd) (fun r h20 e1 => ?_)
    obtain ⟨e0, g21, sm22⟩ := e1
    cases e0
    have f23 := sm22.at f14 (by decide)
    have f24 := sm22.at f15 (by decide)
    have f25 := sm22.at f16 (by decide)
    have f26 := sm22.at f17 (by decide)
    have sm27 := sm18.tr (sm22.wide (by decide))
    rcases pd_wf WT W.2.1 hsd with ⟨hpd, hp0⟩ | ⟨kf, hpd, hkf, hp0⟩
    · rw [if_pos (by rw [hp0]; decide)]
      refine x_if_ne (tgt := 43) dX12_squeeze_37 (by decide) (fun c_37 => absurd (by decide) c_37) (fun c_37 => ?_)
      refine x_bipush (v := (-2)) dX12_squeeze_40 (by decide) ?_
      exact x_iret dX12_squeeze_42 rfl ⟨by rw [spSq, if_neg (fun q => q.elim nb1 (fun q => q.elim nb2 (fun q => q.elim (fun q => hok (Or.inr (Or.inr q))) hK))), ck, cs]; unfold SQ; rw [hpd], (moR g21 (sm27.at f37 (by decide)) (sm27.at f38 (by decide)) (sm27.at f39 (by decide)) (sm27.at f40 (by decide)) f25 f26 (sm27.at f43 (by decide)) (sm27.at f44 (by decide)) (sm27.at f45 (by decide)) (sm27.at f46 (by decide)) (sm27.at f47 (by decide)) (sm27.at f48 (by decide)) (sm27.at f49 (by decide)) r1 r2 r3), sm27, Or.inr (Or.inl hpd)⟩
    · rw [hp0, show nI (kf + 1) - 1 = nI kf from nI_pred kf] at g21 ⊢
      rw [if_neg (nI_pos (by have := W.2.1; omega))]
      obtain ⟨np, P, U, ke, pr, WF⟩ := W.2.2.2.2.2.2.2.2.1 kf hkf
      have WF := WF.canon
      have w8 := W.2.1
      refine x_if_ne (tgt := 43) dX12_squeeze_37 (by decide) (fun c_37 => ?_) (fun c_37 => absurd c_37 (by decide))
      refine x_aload_n dX12_squeeze_43 0 rfl ?_
      refine x_aload_n dX12_squeeze_44 0 rfl ?_
      refine x_get (v := .int (nI kf)) dX12_squeeze_45 fX12_239 g21 (by decide) rfl ?_
      refine x_iload dX12_squeeze_48 4 rfl ?_
      refine x_callV (rf' := 1) (rl' := 21) [.int (nI kf), .int kt] [] dX12_squeeze_50 vX12_226 Y_X12_lay g21 (by decide) rfl rfl (Nat.le_of_ble_eq_true rfl) (Nat.le_of_ble_eq_true rfl) (by decide) (by decide) (c_layM (k := k) (sd := sd) g21 f23 f25 f26 RH WF (by omega)) (fun r h28 e32 => ?_)
      obtain ⟨e0, L31, g29, sm30⟩ := e32
      cases e0
      have f33 := sm30.at f23 (by decide)
      have f34 := sm30.at f24 (by decide)
      have sm35 := sm27.tr (sm30)
      obtain ⟨cv36, sv37, g38, g39, -⟩ := id L31
      refine x_aload_n dX12_squeeze_53 0 rfl ?_
      refine x_aload_n dX12_squeeze_54 0 rfl ?_
      refine x_iload_n dX12_squeeze_55 1 rfl ?_
      refine x_callV (rf' := 1) (rl' := 21) [.int (nI k)] [.ref 36] dX12_squeeze_56 vX12_255 Y_X12_weightOf g29 (by decide) rfl rfl (Nat.le_of_ble_eq_true rfl) (Nat.le_of_ble_eq_true rfl) (by decide) (by decide) (c_weightOfR g29 f33 RH (by omega)) (fun _ _ e40 => ?_)
      cases e40
      refine x_i2l dX12_squeeze_59 ?_
      refine x_iload_n dX12_squeeze_60 3 rfl ?_
      refine x_i2l dX12_squeeze_61 ?_
      refine x_aload_n dX12_squeeze_62 0 rfl ?_
      refine x_get (v := .int ((sR s t) (164 + 24 * k + 5 + 3 * sd + 1))) dX12_squeeze_63 fX12_242 g29 (by decide) rfl ?_
      refine x_i2l dX12_squeeze_66 ?_
      refine x_aload_n dX12_squeeze_67 0 rfl ?_
      refine x_get (v := .int ((sR s t) (164 + 24 * k + 5 + 3 * sd + 2))) dX12_squeeze_68 fX12_245 g29 (by decide) rfl ?_
      refine x_i2l dX12_squeeze_71 ?_
      refine x_callV (rf' := 0) (rl' := 0) [.long (((sR s t) (164 + 24 * k))).toInt64, .long hh.toInt64, .long (((sR s t) (164 + 24 * k + 5 + 3 * sd + 1))).toInt64, .long (((sR s t) (164 + 24 * k + 5 + 3 * sd + 2))).toInt64] [] dX12_squeeze_72 vX12_258 Y_X12_squeezed g29 (by decide) rfl rfl (Nat.le_of_ble_eq_true rfl) (Nat.le_of_ble_eq_true rfl) (by decide) (by decide) (c_squeezedM g29 L31 WF) (fun _ _ e41 => ?_)
      cases e41
      exact x_iret dX12_squeeze_75 rfl ⟨by rw [spSq, if_neg (fun q => q.elim nb1 (fun q => q.elim nb2 (fun q => q.elim (fun q => hok (Or.inr (Or.inr q))) hK))), ck, cs]; unfold SQ; rw [hpd], (moR g29 (sm35.at f37 (by decide)) (sm35.at f38 (by decide)) (sm35.at f39 (by decide)) (sm35.at f40 (by decide)) g38 g39 (sm35.at f43 (by decide)) (sm35.at f44 (by decide)) (sm35.at f45 (by decide)) (sm35.at f46 (by decide)) (sm35.at f47 (by decide)) (sm35.at f48 (by decide)) (sm35.at f49 (by decide)) r1 r2 r3), sm35, Or.inr (Or.inr ⟨kf, hpd, WF, by omega, L31, _, _, _, _, _, _, _, _, _, _, _, _, _, _, b, hlb, g29⟩)⟩

theorem m_squeeze {G : GT} {h : List PE} {s : ST} {t : Int32} {th sd : Int32} {hh kt : Int32} (hM : MoR h s) (hW : WS s) : CT G mX12_squeeze 4 89 [.ref 36, .int th, .int sd, .int hh, .int kt, .int t] h (fun o => o.1 = some (.int (spSq (sR s t) (sC s t) th sd hh kt)) ∧ MoR o.2 s ∧ Sm [36, 41, 42] h o.2) := by
  by_cases h1 : bT (sC s t) th ∨ bS sd ∨ bH hh
  · exact m_squeezeN hM hW h1
  · have W := hW.cur t
    obtain ⟨k, hk, rfl⟩ := ix_of (by have := W.2.2.2.1; omega) (fun q => h1 (Or.inl q))
    obtain ⟨d, hd, rfl⟩ := ix_of (m := 6) (by decide) (fun q => h1 (Or.inr (Or.inl q)))
    exact (m_squeezeS hM hW hk hd (fun q => h1 (Or.inr (Or.inr q)))).weaken (fun o ho => ⟨ho.1, ho.2.1, ho.2.2.1⟩)

set_option maxRecDepth 100000 in
set_option maxHeartbeats 4000000 in
theorem m_blowN {G : GT} {h : List PE} {s : ST} {t : Int32} {th sd hh kt : Int32} (hM : MoR h s) (hW : WS s) (hbad : bT (sC s t) th ∨ bS sd ∨ bH hh) : CT G mX12_blow 5 114 [.ref 36, .int th, .int sd, .int hh, .int kt, .int t] h (fun o => o.1 = some (.int (spBl (sR s t) (sC s t) th sd hh kt)) ∧ MoR o.2 s ∧ Sm [36, 41, 42] h o.2) := by
  obtain ⟨thr0, siz0, too0, frm0, knd0, num0, sgn0, plc0, wrd0, tld0, now0, lst0, pfo0, thk0, are0, ipd0, mt0, bk0, dy0, nm0, cv0, sv0, k10, k20, k30, k40, k50, k60, k70, f36, -⟩ := id hM
  show X (NF G) G mX12_blow 5 114 0 [(0, .ref 36), (1, .int th), (2, .int sd), (3, .int hh), (4, .int kt), (5, .int t)] [] h _
  refine x_aload_n dX12_blow_0 0 rfl ?_
  refine x_iload_n dX12_blow_1 1 rfl ?_
  refine x_iload_n dX12_blow_2 2 rfl ?_
  refine x_iload_n dX12_blow_3 3 rfl ?_
  refine x_iload dX12_blow_4 4 rfl ?_
  refine x_iload dX12_blow_6 5 rfl ?_
  refine x_callV (rf' := 4) (rl' := 89) [.int th, .int sd, .int hh, .int kt, .int t] [] dX12_blow_8 vX12_262 Y_X12_squeeze f36 (by decide) rfl rfl (Nat.le_of_ble_eq_true rfl) (Nat.le_of_ble_eq_true rfl) (by decide) (by decide) (m_squeezeN hM hW hbad) (fun r h1 e1 => ?_)
  obtain ⟨e0, hM1, sm1⟩ := e1
  cases e0
  rw [spSq, if_pos (hbad.elim Or.inl (fun q => Or.inr (q.elim Or.inl (fun q => Or.inr (Or.inl q)))))]
  refine x_istore (lv2 := [(6, .int (-1)), (0, .ref 36), (1, .int th), (2, .int sd), (3, .int hh), (4, .int kt), (5, .int t)]) dX12_blow_11 (by decide) rfl ?_
  refine x_iload dX12_blow_13 0 rfl ?_
  refine x_if_ge (tgt := 23) dX12_blow_15 (by decide) (fun c_15 => absurd c_15 (by decide)) (fun c_15 => ?_)
  refine x_iload dX12_blow_18 0 rfl ?_
  refine x_goto (tgt := 40) dX12_blow_20 (by decide) ?_
  exact x_iret dX12_blow_40 rfl ⟨by rw [spBl, if_pos (hbad.elim Or.inl (fun q => Or.inr (q.elim Or.inl (fun q => Or.inr (Or.inl q)))))], hM1, sm1⟩

set_option maxRecDepth 100000 in
set_option maxHeartbeats 4000000 in
theorem m_blowS {G : GT} {h : List PE} {s : ST} {t : Int32} {k sd : Nat} {hh kt : Int32} (hM : MoR h s) (hW : WS s) (hk : k < (sC s t).2.1) (hsd : sd < 6) (hH : ¬ bH hh) : CT G mX12_blow 5 114 [.ref 36, .int (nI k), .int (nI sd), .int hh, .int kt, .int t] h (fun o => o.1 = some (.int (spBl (sR s t) (sC s t) (nI k) (nI sd) hh kt)) ∧ MoR o.2 s ∧ Sm [36, 41, 42] h o.2) := by
  have hM0 := hM
  obtain ⟨thr, siz, too, frm, knd, num, sgn, plc, wrd, tld, now, lst, pfo, thk, are, ipd, mt, bk, dy, nm, cv, sv, k1, k2, k3, k4, k5, k6, k7, f36, f37, f38, f39, f40, f41, f42, f43, f44, f45, f46, f47, f48, f49, r1, r2, r3⟩ := hM
  have W := hW.cur t
  have hm : MB (s_n s) dy bk (s_dy s) (s_rc s) := ⟨hW.1, r2⟩
  have w4 := W.2.2.2.1
  obtain ⟨b, hlb⟩ := curC_some (n := s_n s) (sdy := s_dy s) (ct := s_ct s) (t := t) hk
  have RH : 484 * b + 484 ≤ 10164 ∧ ∀ j, j < 484 → bk (484 * b + j) = sR s t j := hm.rh hlb
  have WT := W.2.2.2.2.2.2.2.2.2.1 k hk
  have ck : tO (nI k) = 164 + 24 * k := by show 164 + 24 * (nI k).toNatClampNeg = _; rw [nI_clamp (by omega)]
  have cs : (nI sd).toNatClampNeg = sd := nI_clamp (by omega)
  obtain ⟨⟨wn, hw, hw1, hw2⟩, -⟩ := id WT
  have hw9 := nI_one hw1 (show wn < 2 ^ 31 by omega)
  rw [← hw] at hw9
  have nb1 : ¬ bT (sC s t) (nI k) := fun q => q.elim (nI_pos (by omega)) (fun q => absurd ((nI_leI (by omega) (by omega)).mp q) (by omega))
  have nb2 : ¬ bS (nI sd) := fun q => q.elim (nI_pos (by omega)) (fun q => absurd ((nI_leI (a := 6) (by decide) (by omega)).mp q) (by omega))
  show X (NF G) G mX12_blow 5 114 0 [(0, .ref 36), (1, .int (nI k)), (2, .int (nI sd)), (3, .int hh), (4, .int kt), (5, .int t)] [] h _
  refine x_aload_n dX12_blow_0 0 rfl ?_
  refine x_iload_n dX12_blow_1 1 rfl ?_
  refine x_iload_n dX12_blow_2 2 rfl ?_
  refine x_iload_n dX12_blow_3 3 rfl ?_
  refine x_iload dX12_blow_4 4 rfl ?_
  refine x_iload dX12_blow_6 5 rfl ?_
  refine x_callV (rf' := 4) (rl' := 89) [.int (nI k), .int (nI sd), .int hh, .int kt, .int t] [] dX12_blow_8 vX12_262 Y_X12_squeeze f36 (by decide) rfl rfl (Nat.le_of_ble_eq_true rfl) (Nat.le_of_ble_eq_true rfl) (by decide) (by decide) (m_squeezeS hM0 hW hk hsd hH) (fun r h1 e1 => ?_)
  obtain ⟨e0, hM1, sm1, e2⟩ := e1
  cases e0
  rcases e2 with hK | e2
  · rw [spSq, if_pos (Or.inr (Or.inr (Or.inr hK)))]
    refine x_istore (lv2 := [(6, .int (-1)), (0, .ref 36), (1, .int (nI k)), (2, .int (nI sd)), (3, .int hh), (4, .int kt), (5, .int t)]) dX12_blow_11 (by decide) rfl ?_
    refine x_iload dX12_blow_13 0 rfl ?_
    refine x_if_ge (tgt := 23) dX12_blow_15 (by decide) (fun c_15 => absurd c_15 (by decide)) (fun c_15 => ?_)
    refine x_iload dX12_blow_18 0 rfl ?_
    refine x_goto (tgt := 40) dX12_blow_20 (by decide) ?_
    exact x_iret dX12_blow_40 rfl ⟨by rw [spBl, if_pos (Or.inr (Or.inr (Or.inr hK)))], hM1, sm1⟩
  · by_cases hK : bK kt
    · rw [spSq, if_pos (Or.inr (Or.inr (Or.inr hK)))]
      refine x_istore (lv2 := [(6, .int (-1)), (0, .ref 36), (1, .int (nI k)), (2, .int (nI sd)), (3, .int hh), (4, .int kt), (5, .int t)]) dX12_blow_11 (by decide) rfl ?_
      refine x_iload dX12_blow_13 0 rfl ?_
      refine x_if_ge (tgt := 23) dX12_blow_15 (by decide) (fun c_15 => absurd c_15 (by decide)) (fun c_15 => ?_)
      refine x_iload dX12_blow_18 0 rfl ?_
      refine x_goto (tgt := 40) dX12_blow_20 (by decide) ?_
      exact x_iret dX12_blow_40 rfl ⟨by rw [spBl, if_pos (Or.inr (Or.inr (Or.inr hK)))], hM1, sm1⟩
    · rw [spSq, if_neg (fun q => q.elim nb1 (fun q => q.elim nb2 (fun q => q.elim hH hK))), ck, cs]
      rcases e2 with hpd | ⟨kf, hpd, WF, hkf, L, thr2, siz2, too2, frm2, knd2, num2, sgn2, plc2, wrd2, tld2, lst2, pfo2, thk2, ipd2, b2, hlb2, g36⟩
      · unfold SQ
        rw [hpd]
        refine x_istore (lv2 := [(6, .int (-2)), (0, .ref 36), (1, .int (nI k)), (2, .int (nI sd)), (3, .int hh), (4, .int kt), (5, .int t)]) dX12_blow_11 (by decide) rfl ?_
        refine x_iload dX12_blow_13 0 rfl ?_
        refine x_if_ge (tgt := 23) dX12_blow_15 (by decide) (fun c_15 => absurd c_15 (by decide)) (fun c_15 => ?_)
        refine x_iload dX12_blow_18 0 rfl ?_
        refine x_goto (tgt := 40) dX12_blow_20 (by decide) ?_
        exact x_iret dX12_blow_40 rfl ⟨by rw [spBl, if_neg (fun q => q.elim nb1 (fun q => q.elim nb2 (fun q => q.elim hH hK))), ck, cs]; unfold BL; rw [hpd], hM1, sm1⟩
      · unfold SQ
        rw [hpd]
        dsimp only
        have hc9 := cnR_le WF
        obtain ⟨cv2, sv2, g41, g42, ecv, esv⟩ := id L
        have g38 := sm1.at f38 (by decide)
        have RH2 : 484 * b2 + 484 ≤ 10164 ∧ ∀ j, j < 484 → bk (484 * b2 + j) = sR s t j := hm.rh hlb2
        rcases sqF_cases (stR (sR s t) (4 + 20 * kf) kt) ((sR s t) (164 + 24 * k)).toInt64 hh.toInt64 (thR (sR s t) (164 + 24 * k) sd) (arR (sR s t) (164 + 24 * k) sd) (cnR (sR s t) (4 + 20 * kf)) 0 with e9 | ⟨x, x1, x2, e9⟩
        · rw [e9]
          refine x_istore (lv2 := [(6, .int (-2)), (0, .ref 36), (1, .int (nI k)), (2, .int (nI sd)), (3, .int hh), (4, .int kt), (5, .int t)]) dX12_blow_11 (by decide) rfl ?_
          refine x_iload dX12_blow_13 0 rfl ?_
          refine x_if_ge (tgt := 23) dX12_blow_15 (by decide) (fun c_15 => absurd c_15 (by decide)) (fun c_15 => ?_)
          refine x_iload dX12_blow_18 0 rfl ?_
          refine x_goto (tgt := 40) dX12_blow_20 (by decide) ?_
          exact x_iret dX12_blow_40 rfl ⟨by rw [spBl, if_neg (fun q => q.elim nb1 (fun q => q.elim nb2 (fun q => q.elim hH hK))), ck, cs]; unfold BL; rw [hpd]; dsimp only; unfold blO; rw [e9, if_pos (by decide)], hM1, sm1⟩
        · rw [e9]
          refine x_istore (lv2 := [(6, .int (nI x)), (0, .ref 36), (1, .int (nI k)), (2, .int (nI sd)), (3, .int hh), (4, .int kt), (5, .int t)]) dX12_blow_11 (by decide) rfl ?_
          refine x_iload dX12_blow_13 0 rfl ?_
          refine x_if_geN (a := x) (by omega) (tgt := 23) dX12_blow_15 (by decide) ?_
          refine x_aload_n dX12_blow_23 1 rfl ?_
          refine x_iload dX12_blow_24 0 rfl ?_
          refine x_aload_n dX12_blow_26 1 rfl ?_
          refine x_iload_n dX12_blow_27 2 rfl ?_
          refine x_callV (rf' := 1) (rl' := 21) [.int (nI k)] [.int (nI x), .ref 36] dX12_blow_28 vX12_255 Y_X12_weightOf g36 (by decide) rfl rfl (Nat.le_of_ble_eq_true rfl) (Nat.le_of_ble_eq_true rfl) (by decide) (by decide) (c_weightOfR g36 g38 RH2 (by omega)) (fun _ _ e5 => ?_)
          cases e5
          refine x_i2l dX12_blow_31 ?_
          refine x_aload_n dX12_blow_32 1 rfl ?_
          refine x_get (v := .int ((sR s t) (164 + 24 * k + 5 + 3 * sd + 2))) dX12_blow_33 fX12_245 g36 (by decide) rfl ?_
          refine x_i2l dX12_blow_36 ?_
          refine x_callV (rf' := 0) (rl' := 0) [.int (nI x), .long (((sR s t) (164 + 24 * k))).toInt64, .long (((sR s t) (164 + 24 * k + 5 + 3 * sd + 2))).toInt64] [] dX12_blow_37 vX12_266 Y_X12_blowAt g36 (by decide) rfl rfl (Nat.le_of_ble_eq_true rfl) (Nat.le_of_ble_eq_true rfl) (by decide) (by decide) (c_blowAt g36 g41 (by omega) hw9.2) (fun _ _ e5 => ?_)
          cases e5
          rw [ecv x (by omega)]
          exact x_iret dX12_blow_40 rfl ⟨by rw [spBl, if_neg (fun q => q.elim nb1 (fun q => q.elim nb2 (fun q => q.elim hH hK))), ck, cs]; unfold BL; rw [hpd]; dsimp only; unfold blO; rw [e9, if_neg (nI_pos (by omega)), nI_clamp (by omega)], hM1, sm1⟩

theorem m_blow {G : GT} {h : List PE} {s : ST} {t : Int32} {th sd : Int32} {hh kt : Int32} (hM : MoR h s) (hW : WS s) : CT G mX12_blow 5 114 [.ref 36, .int th, .int sd, .int hh, .int kt, .int t] h (fun o => o.1 = some (.int (spBl (sR s t) (sC s t) th sd hh kt)) ∧ MoR o.2 s ∧ Sm [36, 41, 42] h o.2) := by
  by_cases h1 : bT (sC s t) th ∨ bS sd ∨ bH hh
  · exact m_blowN hM hW h1
  · have W := hW.cur t
    obtain ⟨k, hk, rfl⟩ := ix_of (by have := W.2.2.2.1; omega) (fun q => h1 (Or.inl q))
    obtain ⟨d, hd, rfl⟩ := ix_of (m := 6) (by decide) (fun q => h1 (Or.inr (Or.inl q)))
    exact (m_blowS hM hW hk hd (fun q => h1 (Or.inr (Or.inr q)))).weaken (fun o ho => ho)

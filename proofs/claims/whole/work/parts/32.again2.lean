set_option maxRecDepth 100000 in
set_option maxHeartbeats 4000000 in
theorem m_againN {G : GT} {h : List PE} {s : ST} {t : Int32} {th sd hh : Int32} (hM : MoR h s) (hW : WS s) (hbad : bT (sC s t) th ∨ bS sd ∨ bH hh) : CT G mX12_again 4 89 [.ref 36, .int th, .int sd, .int hh, .int t] h (fun o => o.1 = some (.int (spAg (sR s t) (sC s t) th sd hh)) ∧ MoR o.2 s ∧ Sm [36, 41, 42] h o.2) := by
  obtain ⟨thr, siz, too, frm, knd, num, sgn, plc, wrd, tld, now, lst, pfo, thk, are, ipd, mt, bk, dy, nm, cv, sv, k1, k2, k3, k4, k5, k6, k7, f36, f37, f38, f39, f40, f41, f42, f43, f44, f45, f46, f47, f48, f49, r1, r2, r3⟩ := hM
  have W := hW.cur t
  have hm : MB (s_n s) dy bk (s_dy s) (s_rc s) := ⟨hW.1, r2⟩
  have sm0 : Sm [36, 41, 42] h h := Sm.rf
  show X (NF G) G mX12_again 4 89 0 [(0, .ref 36), (1, .int th), (2, .int sd), (3, .int hh), (4, .int t)] [] h _
  refine x_aload_n dX12_again_0 0 rfl ?_
  refine x_iconst (v := 0) dX12_again_1 (by decide) ?_
  refine x_put (fs2 := (MO 0 ((nI (s_tn s))) ((nI (s_td s))) ((nI (s_n s))) siz too frm knd num sgn ((s_fl s)) plc wrd tld now lst pfo thk are ((s_br s)) ipd ((s_bs s)))) dX12_again_2 fX12_55 (Or.inl rfl) f36 (by decide) rfl rfl (Nat.le_of_ble_eq_true rfl) rfl (fun h1 a2 e3 l4 s5 => ?_)
  have f6 := (e3 38 (by decide)).trans f38
  have f7 := (e3 39 (by decide)).trans f39
  have f8 := (e3 41 (by decide)).trans f41
  have f9 := (e3 42 (by decide)).trans f42
  have sm10 := Sm.put sm0 e3 l4 s5 (by decide)
  refine x_aload_n dX12_again_5 0 rfl ?_
  refine x_iload_n dX12_again_6 1 rfl ?_
  refine x_iload_n dX12_again_7 2 rfl ?_
  refine x_iload_n dX12_again_8 3 rfl ?_
  refine x_iload dX12_again_9 4 rfl ?_
  refine x_callV (rf' := 3) (rl' := 65) [.int th, .int sd, .int hh, .int t] [] dX12_again_11 vX12_248 Y_X12_isDropped a2 (by decide) rfl rfl (Nat.le_of_ble_eq_true rfl) (Nat.le_of_ble_eq_true rfl) (by decide) (by decide) (c_isDropped a2 f6 f7 hm W) (fun r h11 e1 => ?_)
  obtain ⟨e0, g12, sm13⟩ := e1
  cases e0
  rw [if_pos hbad]
  have f14 := sm13.at f6 (by decide)
  have f15 := sm13.at f7 (by decide)
  have f16 := sm13.at f8 (by decide)
  have f17 := sm13.at f9 (by decide)
  have sm18 := sm10.tr (sm13.wide (by decide))
  refine x_if_ne (tgt := 19) dX12_again_14 (by decide) (fun c_14 => absurd (by decide) c_14) (fun c_14 => ?_)
  refine x_iconst (v := (-1)) dX12_again_17 (by decide) ?_
  exact x_iret dX12_again_18 rfl ⟨by rw [spAg, if_pos hbad], (moR g12 (sm18.at f37 (by decide)) (sm18.at f38 (by decide)) (sm18.at f39 (by decide)) (sm18.at f40 (by decide)) f16 f17 (sm18.at f43 (by decide)) (sm18.at f44 (by decide)) (sm18.at f45 (by decide)) (sm18.at f46 (by decide)) (sm18.at f47 (by decide)) (sm18.at f48 (by decide)) (sm18.at f49 (by decide)) r1 r2 r3), sm18⟩

set_option maxRecDepth 100000 in
set_option maxHeartbeats 4000000 in
theorem lm_again {G : GT} {s : ST} {t hh : Int32} {k sd kf b : Nat} {siz too frm knd num sgn plc : Int32} {wrd : Int64} {tld ipd : Int32} {bk : Nat → Int32} (W : WFk (sR s t) (sC s t)) (hk : k < (sC s t).2.1) (hsd : sd < 6) (WF : WFc (sR s t) (4 + 20 * kf)) (hkf : kf < 8) (hpd : pdF (sR s t) (164 + 24 * k) sd = some kf) (RH : 484 * b + 484 ≤ 10164 ∧ ∀ j, j < 484 → bk (484 * b + j) = sR s t j) (hw9 : ¬ ((sR s t) (164 + 24 * k)).toInt64 = 0) : ∀ (m i kn : Nat) (lst : Int32) (cv : Nat → Int32) (sv : Nat → Int64) (h : List PE), 60 - i = m → i ≤ 60 → kn ≤ 200 → h[36]? = some (cO 12 (MO 0 ((nI (s_tn s))) ((nI (s_td s))) ((nI (s_n s))) siz too frm knd num sgn ((s_fl s)) plc wrd tld ((nI (484 * b))) lst ((nI kf)) (((sR s t) (164 + 24 * k + 5 + 3 * sd + 1))) (((sR s t) (164 + 24 * k + 5 + 3 * sd + 2))) ((s_br s)) ipd ((s_bs s)))) → h[38]? = some (cI 10164 bk) → h[41]? = some (cI 96 cv) → h[42]? = some (cJ 96 sv) → X (NF G) G mX12_again 4 89 37 [(6, .int (nI i)), (5, .int (nI kn)), (0, .ref 36), (1, .int (nI k)), (3, .int hh)] [] h (fun o => o.1 = some (.int (nI (i + agF (fun kept => HO (sR s t) (164 + 24 * k) sd kept ((sR s t) (164 + 24 * k)) hh ((sR s t) (164 + 24 * k + 4))) (keP (sR s t) (164 + 24 * k) sd) (60 - i) (nI kn)))) ∧ (∃ (lst2 : Int32) (cv2 : Nat → Int32) (sv2 : Nat → Int64), o.2[36]? = some (cO 12 (MO 0 ((nI (s_tn s))) ((nI (s_td s))) ((nI (s_n s))) siz too frm knd num sgn ((s_fl s)) plc wrd tld ((nI (484 * b))) lst2 ((nI kf)) (((sR s t) (164 + 24 * k + 5 + 3 * sd + 1))) (((sR s t) (164 + 24 * k + 5 + 3 * sd + 2))) ((s_br s)) ipd ((s_bs s)))) ∧ o.2[41]? = some (cI 96 cv2) ∧ o.2[42]? = some (cJ 96 sv2)) ∧ Sm [36, 41, 42] h o.2) := by
  obtain ⟨ke, hke, eke⟩ := keP_nat W hk hsd
  have eke2 : (sR s t) (4 + 20 * kf + 1) = nI ke := by rw [← eke]; unfold keP; rw [hpd]
  have w4 := W.2.2.2.1
  intro m
  induction m using Nat.strongRecOn with
  | _ m ih =>
    intro i kn lst cv sv h hm hi hkn f36 f38 f41 f42
    have sm0 : Sm [36, 41, 42] h h := Sm.rf
    refine x_iload dX12_again_37 0 rfl ?_
    refine x_bipush (v := 60) dX12_again_39 (by decide) ?_
    refine x_icmp_geN (tgt := 97) (a := i) (b := 60) (by omega) (by omega) dX12_again_41 (by decide) (fun c_41 => ?_) (fun c_41 => ?_)
    · refine x_iload dX12_again_97 0 rfl ?_
      exact x_iret dX12_again_99 rfl ⟨by rw [show 60 - i = 0 by omega]; rfl, ⟨lst, cv, sv, f36, f41, f42⟩, sm0⟩
    · refine x_aload_n dX12_again_44 2 rfl ?_
      refine x_aload_n dX12_again_45 2 rfl ?_
      refine x_get (v := .int (nI kf)) dX12_again_46 fX12_239 f36 (by decide) rfl ?_
      refine x_iload dX12_again_49 1 rfl ?_
      refine x_callV (rf' := 1) (rl' := 21) [.int (nI kf), .int (nI kn)] [] dX12_again_51 vX12_226 Y_X12_lay f36 (by decide) rfl rfl (Nat.le_of_ble_eq_true rfl) (Nat.le_of_ble_eq_true rfl) (by decide) (by decide) (c_layM (k := k) (sd := sd) f36 f38 f41 f42 RH WF (by omega)) (fun r h1 e5 => ?_)
      obtain ⟨e0, L4, g2, sm3⟩ := e5
      cases e0
      have f6 := sm3.at f38 (by decide)
      have sm7 := sm0.tr (sm3)
      obtain ⟨cv8, sv9, g10, g11, -⟩ := id L4
      refine x_aload_n dX12_again_54 2 rfl ?_
      refine x_aload_n dX12_again_55 2 rfl ?_
      refine x_iload_n dX12_again_56 3 rfl ?_
      refine x_callV (rf' := 1) (rl' := 21) [.int (nI k)] [.ref 36] dX12_again_57 vX12_255 Y_X12_weightOf g2 (by decide) rfl rfl (Nat.le_of_ble_eq_true rfl) (Nat.le_of_ble_eq_true rfl) (by decide) (by decide) (c_weightOfR g2 f6 RH (by omega)) (fun _ _ e12 => ?_)
      cases e12
      refine x_iload_n dX12_again_60 4 rfl ?_
      refine x_aload_n dX12_again_61 2 rfl ?_
      refine x_iload_n dX12_again_62 3 rfl ?_
      refine x_callV (rf' := 1) (rl' := 21) [.int (nI k)] [.int hh, .int ((sR s t) (164 + 24 * k)), .ref 36] dX12_again_63 vX12_270 Y_X12_markOf g2 (by decide) rfl rfl (Nat.le_of_ble_eq_true rfl) (Nat.le_of_ble_eq_true rfl) (by decide) (by decide) (c_markOfR g2 f6 RH (by omega)) (fun _ _ e13 => ?_)
      cases e13
      refine x_callV (rf' := 1) (rl' := 29) [.int ((sR s t) (164 + 24 * k)), .int hh, .int ((sR s t) (164 + 24 * k + 4))] [] dX12_again_66 vX12_273 Y_X12_holds g2 (by decide) rfl rfl (Nat.le_of_ble_eq_true rfl) (Nat.le_of_ble_eq_true rfl) (by decide) (by decide) (c_holdsM g2 L4 WF hpd hw9) (fun _ _ e1 => ?_)
      cases e1
      by_cases hO : HO (sR s t) (164 + 24 * k) sd (nI kn) ((sR s t) (164 + 24 * k)) hh ((sR s t) (164 + 24 * k + 4)) = true
      · rw [if_pos hO]
        refine x_if_ne (tgt := 75) dX12_again_69 (by decide) (fun c_69 => ?_) (fun c_69 => absurd c_69 (by decide))
        refine x_iload dX12_again_75 1 rfl ?_
        refine x_aload_n dX12_again_77 2 rfl ?_
        refine x_aload_n dX12_again_78 2 rfl ?_
        refine x_get (v := .int (nI kf)) dX12_again_79 fX12_239 g2 (by decide) rfl ?_
        refine x_callV (rf' := 1) (rl' := 21) [.int (nI kf)] [.int (nI kn)] dX12_again_82 vX12_276 Y_X12_keepsOf g2 (by decide) rfl rfl (Nat.le_of_ble_eq_true rfl) (Nat.le_of_ble_eq_true rfl) (by decide) (by decide) (c_keepsOfR g2 f6 RH (by omega)) (fun _ _ e14 => ?_)
        cases e14
        rw [eke2]
        refine x_imul dX12_again_85 ?_
        refine x_bipush (v := 100) dX12_again_86 (by decide) ?_
        refine x_idiv dX12_again_88 (by decide) ?_
        rw [(wear_nat hkn hke).1]
        refine x_istore (lv2 := [(5, .int (nI (kn * ke / 100))), (6, .int (nI i)), (0, .ref 36), (1, .int (nI k)), (3, .int hh)]) dX12_again_89 (by decide) rfl ?_
        refine x_iincN (lv2 := [(6, .int (nI (i + 1))), (5, .int (nI (kn * ke / 100))), (0, .ref 36), (1, .int (nI k)), (3, .int hh)]) dX12_again_91 1 rfl (by decide) rfl ?_
        refine x_goto (tgt := 37) dX12_again_94 (by decide) ?_
        refine x_perm [0, 1, 2, 3, 4] rfl ?_
        refine (ih (60 - (i + 1)) (by omega) (i + 1) (kn * ke / 100) _ _ _ h1 rfl (by omega) (wear_nat hkn hke).2 g2 f6 g10 g11).weaken (fun o ho => ⟨?_, ho.2.1, sm7.tr ho.2.2⟩)
        rw [ho.1, show 60 - i = (60 - (i + 1)) + 1 by omega, agF, if_pos hO, eke, (wear_nat hkn hke).1]
        congr 3
        omega
      · rw [if_neg hO]
        refine x_if_ne (tgt := 75) dX12_again_69 (by decide) (fun c_69 => absurd (by decide) c_69) (fun c_69 => ?_)
        refine x_iload dX12_again_72 0 rfl ?_
        exact x_iret dX12_again_74 rfl ⟨by rw [show 60 - i = (60 - (i + 1)) + 1 by omega, agF, if_neg hO]; rfl, ⟨_, _, _, g2, g10, g11⟩, sm7⟩

set_option maxRecDepth 100000 in
set_option maxHeartbeats 4000000 in
theorem m_againS {G : GT} {h : List PE} {s : ST} {t : Int32} {k sd : Nat} {hh : Int32} (hM : MoR h s) (hW : WS s) (hk : k < (sC s t).2.1) (hsd : sd < 6) (hH : ¬ bH hh) : CT G mX12_again 4 89 [.ref 36, .int (nI k), .int (nI sd), .int hh, .int t] h (fun o => o.1 = some (.int (spAg (sR s t) (sC s t) (nI k) (nI sd) hh)) ∧ MoR o.2 s ∧ Sm [36, 41, 42] h o.2) := by
  obtain ⟨thr, siz, too, frm, knd, num, sgn, plc, wrd, tld, now, lst, pfo, thk, are, ipd, mt, bk, dy, nm, cv, sv, k1, k2, k3, k4, k5, k6, k7, f36, f37, f38, f39, f40, f41, f42, f43, f44, f45, f46, f47, f48, f49, r1, r2, r3⟩ := hM
  have W := hW.cur t
  have hm : MB (s_n s) dy bk (s_dy s) (s_rc s) := ⟨hW.1, r2⟩
  have w4 := W.2.2.2.1
  obtain ⟨b, hlb⟩ := curC_some (n := s_n s) (sdy := s_dy s) (ct := s_ct s) (t := t) hk
  have RH : 484 * b + 484 ≤ 10164 ∧ ∀ j, j < 484 → bk (484 * b + j) = sR s t j := hm.rh hlb
  have WT := W.2.2.2.2.2.2.2.2.2.1 k hk
  have ck : tO (nI k) = 164 + 24 * k := by show 164 + 24 * (nI k).toNatClampNeg = _; rw [nI_clamp (by omega)]
  have cs : (nI sd).toNatClampNeg = sd := nI_clamp (by omega)
  obtain ⟨⟨wn, hw, hw1, hw2⟩, -⟩ := id WT
  have hw9 := nI_one hw1 (show wn < 2 ^ 31 by omega)
  rw [← hw] at hw9
  have nb1 : ¬ bT (sC s t) (nI k) := fun q => q.elim (nI_pos (by omega)) (fun q => absurd ((nI_leI (by omega) (by omega)).mp q) (by omega))
  have nb2 : ¬ bS (nI sd) := fun q => q.elim (nI_pos (by omega)) (fun q => absurd ((nI_leI (a := 6) (by decide) (by omega)).mp q) (by omega))
  have hok : ¬ (bT (sC s t) (nI k) ∨ bS (nI sd) ∨ bH hh) := fun q => q.elim nb1 (fun q => q.elim nb2 hH)
  have sm0 : Sm [36, 41, 42] h h := Sm.rf
  show X (NF G) G mX12_again 4 89 0 [(0, .ref 36), (1, .int (nI k)), (2, .int (nI sd)), (3, .int hh), (4, .int t)] [] h _
  refine x_aload_n dX12_again_0 0 rfl ?_
  refine x_iconst (v := 0) dX12_again_1 (by decide) ?_
  refine x_put (fs2 := (MO 0 ((nI (s_tn s))) ((nI (s_td s))) ((nI (s_n s))) siz too frm knd num sgn ((s_fl s)) plc wrd tld now lst pfo thk are ((s_br s)) ipd ((s_bs s)))) dX12_again_2 fX12_55 (Or.inl rfl) f36 (by decide) rfl rfl (Nat.le_of_ble_eq_true rfl) rfl (fun h1 a2 e3 l4 s5 => ?_)
  have f6 := (e3 38 (by decide)).trans f38
  have f7 := (e3 39 (by decide)).trans f39
  have f8 := (e3 41 (by decide)).trans f41
  have f9 := (e3 42 (by decide)).trans f42
  have sm10 := Sm.put sm0 e3 l4 s5 (by decide)
  refine x_aload_n dX12_again_5 0 rfl ?_
  refine x_iload_n dX12_again_6 1 rfl ?_
  refine x_iload_n dX12_again_7 2 rfl ?_
  refine x_iload_n dX12_again_8 3 rfl ?_
  refine x_iload dX12_again_9 4 rfl ?_
  refine x_callV (rf' := 3) (rl' := 65) [.int (nI k), .int (nI sd), .int hh, .int t] [] dX12_again_11 vX12_248 Y_X12_isDropped a2 (by decide) rfl rfl (Nat.le_of_ble_eq_true rfl) (Nat.le_of_ble_eq_true rfl) (by decide) (by decide) (c_isDropped a2 f6 f7 hm W) (fun r h11 e1 => ?_)
  obtain ⟨e0, g12, sm13⟩ := e1
  cases e0
  rw [if_neg hok]
  rw [hlb] at g12
  have g12 : h11[36]? = some (cO 12 (MO 0 ((nI (s_tn s))) ((nI (s_td s))) ((nI (s_n s))) siz too frm knd num sgn ((s_fl s)) plc wrd tld ((nI (484 * b))) lst pfo thk are ((s_br s)) ipd ((s_bs s)))) := g12
  have f14 := sm13.at f6 (by decide)
  have f15 := sm13.at f7 (by decide)
  have f16 := sm13.at f8 (by decide)
  have f17 := sm13.at f9 (by decide)
  have sm18 := sm10.tr (sm13.wide (by decide))
  refine x_if_ne (tgt := 19) dX12_again_14 (by decide) (fun c_14 => ?_) (fun c_14 => absurd c_14 (by decide))
  refine x_aload_n dX12_again_19 0 rfl ?_
  refine x_iload_n dX12_again_20 1 rfl ?_
  refine x_iload_n dX12_again_21 2 rfl ?_
  refine x_callV (rf' := 1) (rl' := 21) [.int (nI k), .int (nI sd)] [] dX12_again_22 vX12_252 Y_X12_takePad g12 (by decide) rfl rfl (Nat.le_of_ble_eq_true rfl) (Nat.le_of_ble_eq_true rfl) (by decide) (by decide) (c_takePad g12 f14 RH (by omega) hsd) (fun r h19 e1 => ?_)
  obtain ⟨e0, g20, sm21⟩ := e1
  cases e0
  have f22 := sm21.at f14 (by decide)
  have f23 := sm21.at f15 (by decide)
  have f24 := sm21.at f16 (by decide)
  have f25 := sm21.at f17 (by decide)
  have sm26 := sm18.tr (sm21.wide (by decide))
  rcases pd_wf WT W.2.1 hsd with ⟨hpd, hp0⟩ | ⟨kf, hpd, hkf, hp0⟩
  · rw [if_pos (by rw [hp0]; decide)]
    refine x_if_ne (tgt := 30) dX12_again_25 (by decide) (fun c_25 => absurd (by decide) c_25) (fun c_25 => ?_)
    refine x_iconst (v := 0) dX12_again_28 (by decide) ?_
    exact x_iret dX12_again_29 rfl ⟨by rw [spAg, if_neg hok, ck, cs, agF, if_neg (by unfold HO; rw [hpd]; exact Bool.false_ne_true)]; rfl, (moR g20 (sm26.at f37 (by decide)) (sm26.at f38 (by decide)) (sm26.at f39 (by decide)) (sm26.at f40 (by decide)) f24 f25 (sm26.at f43 (by decide)) (sm26.at f44 (by decide)) (sm26.at f45 (by decide)) (sm26.at f46 (by decide)) (sm26.at f47 (by decide)) (sm26.at f48 (by decide)) (sm26.at f49 (by decide)) r1 r2 r3), sm26⟩
  · rw [hp0, show nI (kf + 1) - 1 = nI kf from nI_pred kf] at g20 ⊢
    rw [if_neg (nI_pos (by have := W.2.1; omega))]
    obtain ⟨np, P, U, ke, pr, WF⟩ := W.2.2.2.2.2.2.2.2.1 kf hkf
    have WF := WF.canon
    have w8 := W.2.1
    refine x_if_ne (tgt := 30) dX12_again_25 (by decide) (fun c_25 => ?_) (fun c_25 => absurd c_25 (by decide))
    refine x_bipush (v := 100) dX12_again_30 (by decide) ?_
    refine x_istore (lv2 := [(5, .int 100), (0, .ref 36), (1, .int (nI k)), (2, .int (nI sd)), (3, .int hh), (4, .int t)]) dX12_again_32 (by decide) rfl ?_
    refine x_iconst (v := 0) dX12_again_34 (by decide) ?_
    refine x_istore (lv2 := [(6, .int 0), (5, .int 100), (0, .ref 36), (1, .int (nI k)), (2, .int (nI sd)), (3, .int hh), (4, .int t)]) dX12_again_35 (by decide) rfl ?_
    refine x_perm [0, 1, 2, 3, 5] rfl ?_
    refine (lm_again W hk hsd WF (by omega) hpd RH hw9.2 60 0 100 _ _ _ h19 rfl (by omega) (by omega) g20 f22 f24 f25).weaken (fun o ho => ?_)
    obtain ⟨o1, ⟨lst2, cv2, sv2, o2, o3, o4⟩, o5⟩ := ho
    have sm9 := sm26.tr o5
    refine ⟨?_, (moR o2 (sm9.at f37 (by decide)) (sm9.at f38 (by decide)) (sm9.at f39 (by decide)) (sm9.at f40 (by decide)) o3 o4 (sm9.at f43 (by decide)) (sm9.at f44 (by decide)) (sm9.at f45 (by decide)) (sm9.at f46 (by decide)) (sm9.at f47 (by decide)) (sm9.at f48 (by decide)) (sm9.at f49 (by decide)) r1 r2 r3), sm9⟩
    rw [o1, spAg, if_neg hok, ck, cs, Nat.zero_add]
    rfl

theorem m_again {G : GT} {h : List PE} {s : ST} {t : Int32} {th sd : Int32} {hh : Int32} (hM : MoR h s) (hW : WS s) : CT G mX12_again 4 89 [.ref 36, .int th, .int sd, .int hh, .int t] h (fun o => o.1 = some (.int (spAg (sR s t) (sC s t) th sd hh)) ∧ MoR o.2 s ∧ Sm [36, 41, 42] h o.2) := by
  by_cases h1 : bT (sC s t) th ∨ bS sd ∨ bH hh
  · exact m_againN hM hW h1
  · have W := hW.cur t
    obtain ⟨k, hk, rfl⟩ := ix_of (by have := W.2.2.2.1; omega) (fun q => h1 (Or.inl q))
    obtain ⟨d, hd, rfl⟩ := ix_of (m := 6) (by decide) (fun q => h1 (Or.inr (Or.inl q)))
    exact m_againS hM hW hk hd (fun q => h1 (Or.inr (Or.inr q)))

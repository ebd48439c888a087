set_option maxRecDepth 100000 in
set_option maxHeartbeats 4000000 in
theorem lm_highest {G : GT} {h : List PE} {s : ST} {t : Int32} {k sd kf b wn : Nat} {siz too frm knd num sgn plc : Int32} {wrd : Int64} {tld ipd : Int32} {bk : Nat → Int32} (W : WFk (sR s t) (sC s t)) (hk : k < (sC s t).2.1) (hsd : sd < 6) (WF : WFc (sR s t) (4 + 20 * kf)) (hpd : pdF (sR s t) (164 + 24 * k) sd = some kf) (RH : 484 * b + 484 ≤ 10164 ∧ ∀ j, j < 484 → bk (484 * b + j) = sR s t j) (hw : (sR s t) (164 + 24 * k) = nI wn) (hw1 : 1 ≤ wn) (hw2 : wn ≤ 60000) (L : MLaid h (sR s t) k sd kf 100) (f36 : h[36]? = some (cO 12 (MO 0 ((nI (s_tn s))) ((nI (s_td s))) ((nI (s_n s))) siz too frm knd num sgn ((s_fl s)) plc wrd tld ((nI (484 * b))) ((nI (PR (sR s t) (4 + 20 * kf) (npR (sR s t) (4 + 20 * kf) - 1)))) ((nI kf)) (((sR s t) (164 + 24 * k + 5 + 3 * sd + 1))) (((sR s t) (164 + 24 * k + 5 + 3 * sd + 2))) ((s_br s)) ipd ((s_bs s))))) (f38 : h[38]? = some (cI 10164 bk)) : ∀ (m lo hi : Nat), hi - lo ≤ m → lo ≤ topF (WI (sR s t) (164 + 24 * k) sd 100 wn ((sR s t) (164 + 24 * k + 4)).toInt) → topF (WI (sR s t) (164 + 24 * k) sd 100 wn ((sR s t) (164 + 24 * k + 4)).toInt) ≤ hi → hi ≤ 30001 → X (NF G) G mX12_highest 4 89 45 [(5, .int (nI hi)), (4, .int (lcI lo)), (0, .ref 36), (1, .int (nI k))] [] h (fun o => o = (some (.int (lcI (topF (WI (sR s t) (164 + 24 * k) sd 100 wn ((sR s t) (164 + 24 * k + 4)).toInt)))), h)) := by
  have hD : Dn (WI (sR s t) (164 + 24 * k) sd 100 wn ((sR s t) (164 + 24 * k + 4)).toInt) := WI_dn W hk hsd
  have w4 := W.2.2.2.1
  have hw9 := nI_one hw1 (show wn < 2 ^ 31 by omega)
  rw [← hw] at hw9
  intro m
  induction m with
  | zero =>
    intro lo hi h0 h1 h2 h3
    refine x_iload dX12_highest_45 0 rfl ?_
    refine x_iload dX12_highest_47 1 rfl ?_
    refine x_isub dX12_highest_49 ?_
    rw [lcI_sub (show lo ≤ hi + 1 by omega)]
    refine x_iconst (v := 1) dX12_highest_50 (by decide) ?_
    refine x_icmp_leN (tgt := 103) (a := (hi + 1 - lo)) (b := 1) (by omega) (by omega) dX12_highest_51 (by decide) (fun c_51 => ?_) (fun c_51 => absurd (by omega) c_51)
    refine x_iload dX12_highest_103 1 rfl ?_
    exact x_iret dX12_highest_105 rfl (by rw [show topF (WI (sR s t) (164 + 24 * k) sd 100 wn ((sR s t) (164 + 24 * k + 4)).toInt) = lo by omega])
  | succ m ih =>
    intro lo hi h0 h1 h2 h3
    refine x_iload dX12_highest_45 0 rfl ?_
    refine x_iload dX12_highest_47 1 rfl ?_
    refine x_isub dX12_highest_49 ?_
    rw [lcI_sub (show lo ≤ hi + 1 by omega)]
    refine x_iconst (v := 1) dX12_highest_50 (by decide) ?_
    refine x_icmp_leN (tgt := 103) (a := (hi + 1 - lo)) (b := 1) (by omega) (by omega) dX12_highest_51 (by decide) (fun c_51 => ?_) (fun c_51 => ?_)
    · refine x_iload dX12_highest_103 1 rfl ?_
      exact x_iret dX12_highest_105 rfl (by rw [show topF (WI (sR s t) (164 + 24 * k) sd 100 wn ((sR s t) (164 + 24 * k + 4)).toInt) = lo by omega])
    · refine x_iload dX12_highest_54 1 rfl ?_
      refine x_iload dX12_highest_56 0 rfl ?_
      refine x_iadd dX12_highest_58 ?_
      rw [lcI_add (show 1 ≤ lo + hi by omega)]
      refine x_iconst (v := 2) dX12_highest_59 (by decide) ?_
      refine x_idivN (a := (lo + hi - 1)) (b := 2) (by omega) (by omega) (by omega) dX12_highest_60 ?_
      refine x_istore (lv2 := [(6, .int (nI ((lo + hi - 1) / 2))), (5, .int (nI hi)), (4, .int (lcI lo)), (0, .ref 36), (1, .int (nI k))]) dX12_highest_61 (by decide) rfl ?_
      have hh67 : ¬ nI ((lo + hi - 1) / 2) ≤ lcI lo := Int32.not_le.mpr ((lcI_lt (by omega) (by omega)).mpr (by omega))
      refine x_iload dX12_highest_63 0 rfl ?_
      refine x_iload dX12_highest_65 2 rfl ?_
      refine x_icmp_le (tgt := 96) dX12_highest_67 (by decide) (fun c_67 => absurd c_67 hh67) (fun c_67 => ?_)
      refine x_aload_n dX12_highest_70 3 rfl ?_
      refine x_aload_n dX12_highest_71 3 rfl ?_
      refine x_iload_n dX12_highest_72 4 rfl ?_
      refine x_callV (rf' := 1) (rl' := 21) [.int (nI k)] [.ref 36] dX12_highest_73 vX12_255 Y_X12_weightOf f36 (by decide) rfl rfl (Nat.le_of_ble_eq_true rfl) (Nat.le_of_ble_eq_true rfl) (by decide) (by decide) (c_weightOfR f36 f38 RH (by omega)) (fun _ _ e1 => ?_)
      cases e1
      refine x_iload dX12_highest_76 0 rfl ?_
      refine x_aload_n dX12_highest_78 3 rfl ?_
      refine x_iload_n dX12_highest_79 4 rfl ?_
      refine x_callV (rf' := 1) (rl' := 21) [.int (nI k)] [.int (nI ((lo + hi - 1) / 2)), .int ((sR s t) (164 + 24 * k)), .ref 36] dX12_highest_80 vX12_270 Y_X12_markOf f36 (by decide) rfl rfl (Nat.le_of_ble_eq_true rfl) (Nat.le_of_ble_eq_true rfl) (by decide) (by decide) (c_markOfR f36 f38 RH (by omega)) (fun _ _ e2 => ?_)
      cases e2
      refine x_callV (rf' := 1) (rl' := 29) [.int ((sR s t) (164 + 24 * k)), .int (nI ((lo + hi - 1) / 2)), .int ((sR s t) (164 + 24 * k + 4))] [] dX12_highest_83 vX12_273 Y_X12_holds f36 (by decide) rfl rfl (Nat.le_of_ble_eq_true rfl) (Nat.le_of_ble_eq_true rfl) (by decide) (by decide) (c_holdsM f36 L WF hpd hw9.2) (fun _ _ e1 => ?_)
      cases e1
      rw [show HO (sR s t) (164 + 24 * k) sd 100 ((sR s t) (164 + 24 * k)) (nI ((lo + hi - 1) / 2)) ((sR s t) (164 + 24 * k + 4)) = (WI (sR s t) (164 + 24 * k) sd 100 wn ((sR s t) (164 + 24 * k + 4)).toInt) ((lo + hi - 1) / 2) from by (rw [hw]; exact HO_WI (kn := 100) W hk hsd (by omega) hw1 (by omega) (by omega))]
      by_cases hO : (WI (sR s t) (164 + 24 * k) sd 100 wn ((sR s t) (164 + 24 * k + 4)).toInt) ((lo + hi - 1) / 2) = true
      · rw [if_pos hO]
        refine x_if_eq (tgt := 96) dX12_highest_86 (by decide) (fun c_86 => absurd c_86 (by decide)) (fun c_86 => ?_)
        refine x_iload dX12_highest_89 0 rfl ?_
        refine x_istore (lv2 := [(4, .int (nI ((lo + hi - 1) / 2))), (6, .int (nI ((lo + hi - 1) / 2))), (5, .int (nI hi)), (0, .ref 36), (1, .int (nI k))]) dX12_highest_91 (by decide) rfl ?_
        refine x_goto (tgt := 100) dX12_highest_93 (by decide) ?_
        refine x_goto (tgt := 45) dX12_highest_100 (by decide) ?_
        rw [← lcI_succ ((lo + hi - 1) / 2)]
        refine x_perm [2, 0, 3, 4] rfl ?_
        have := (topF_lt hD (j := ((lo + hi - 1) / 2)) (by omega)).mpr hO
        exact ih (((lo + hi - 1) / 2) + 1) hi (by omega) (by omega) (by omega) (by omega)
      · rw [if_neg hO]
        refine x_if_eq (tgt := 96) dX12_highest_86 (by decide) (fun c_86 => ?_) (fun c_86 => absurd (by decide) c_86)
        refine x_iload dX12_highest_96 0 rfl ?_
        refine x_istore (lv2 := [(5, .int (nI ((lo + hi - 1) / 2))), (6, .int (nI ((lo + hi - 1) / 2))), (4, .int (lcI lo)), (0, .ref 36), (1, .int (nI k))]) dX12_highest_98 (by decide) rfl ?_
        refine x_goto (tgt := 45) dX12_highest_100 (by decide) ?_
        refine x_perm [0, 2, 3, 4] rfl ?_
        have := topF_le_of hD (j := ((lo + hi - 1) / 2)) (by omega) (by simpa using hO)
        exact ih lo ((lo + hi - 1) / 2) (by omega) (by omega) (by omega) (by omega)

set_option maxRecDepth 100000 in
set_option maxHeartbeats 4000000 in
theorem m_highestN {G : GT} {h : List PE} {s : ST} {t : Int32} {th sd : Int32} (hM : MoR h s) (hW : WS s) (hbad : bT (sC s t) th ∨ bS sd ∨ bH 0) : CT G mX12_highest 4 89 [.ref 36, .int th, .int sd, .int t] h (fun o => o.1 = some (.int (spHi (sR s t) (sC s t) th sd)) ∧ MoR o.2 s ∧ Sm [36, 41, 42] h o.2) := by
  obtain ⟨thr, siz, too, frm, knd, num, sgn, plc, wrd, tld, now, lst, pfo, thk, are, ipd, mt, bk, dy, nm, cv, sv, k1, k2, k3, k4, k5, k6, k7, f36, f37, f38, f39, f40, f41, f42, f43, f44, f45, f46, f47, f48, f49, r1, r2, r3⟩ := hM
  have W := hW.cur t
  have hm : MB (s_n s) dy bk (s_dy s) (s_rc s) := ⟨hW.1, r2⟩
  have sm0 : Sm [36, 41, 42] h h := Sm.rf
  show X (NF G) G mX12_highest 4 89 0 [(0, .ref 36), (1, .int th), (2, .int sd), (3, .int t)] [] h _
  refine x_aload_n dX12_highest_0 0 rfl ?_
  refine x_iconst (v := 0) dX12_highest_1 (by decide) ?_
  refine x_put (fs2 := (MO 0 ((nI (s_tn s))) ((nI (s_td s))) ((nI (s_n s))) siz too frm knd num sgn ((s_fl s)) plc wrd tld now lst pfo thk are ((s_br s)) ipd ((s_bs s)))) dX12_highest_2 fX12_55 (Or.inl rfl) f36 (by decide) rfl rfl (Nat.le_of_ble_eq_true rfl) rfl (fun h1 a2 e3 l4 s5 => ?_)
  have f6 := (e3 38 (by decide)).trans f38
  have f7 := (e3 39 (by decide)).trans f39
  have f8 := (e3 41 (by decide)).trans f41
  have f9 := (e3 42 (by decide)).trans f42
  have sm10 := Sm.put sm0 e3 l4 s5 (by decide)
  refine x_aload_n dX12_highest_5 0 rfl ?_
  refine x_iload_n dX12_highest_6 1 rfl ?_
  refine x_iload_n dX12_highest_7 2 rfl ?_
  refine x_iconst (v := 0) dX12_highest_8 (by decide) ?_
  refine x_iload_n dX12_highest_9 3 rfl ?_
  refine x_callV (rf' := 3) (rl' := 65) [.int th, .int sd, .int 0, .int t] [] dX12_highest_10 vX12_248 Y_X12_isDropped a2 (by decide) rfl rfl (Nat.le_of_ble_eq_true rfl) (Nat.le_of_ble_eq_true rfl) (by decide) (by decide) (c_isDropped a2 f6 f7 hm W) (fun r h11 e1 => ?_)
  obtain ⟨e0, g12, sm13⟩ := e1
  cases e0
  rw [if_pos hbad]
  have f14 := sm13.at f6 (by decide)
  have f15 := sm13.at f7 (by decide)
  have f16 := sm13.at f8 (by decide)
  have f17 := sm13.at f9 (by decide)
  have sm18 := sm10.tr (sm13.wide (by decide))
  refine x_if_eq (tgt := 25) dX12_highest_13 (by decide) (fun c_13 => ?_) (fun c_13 => absurd (by decide) c_13)
  refine x_iconst (v := (-1)) dX12_highest_25 (by decide) ?_
  exact x_iret dX12_highest_26 rfl ⟨by rw [spHi, if_pos (hbad.elim Or.inl (fun q => q.elim Or.inr (fun q => absurd q (by decide))))], (moR g12 (sm18.at f37 (by decide)) (sm18.at f38 (by decide)) (sm18.at f39 (by decide)) (sm18.at f40 (by decide)) f16 f17 (sm18.at f43 (by decide)) (sm18.at f44 (by decide)) (sm18.at f45 (by decide)) (sm18.at f46 (by decide)) (sm18.at f47 (by decide)) (sm18.at f48 (by decide)) (sm18.at f49 (by decide)) r1 r2 r3), sm18⟩

set_option maxRecDepth 100000 in
set_option maxHeartbeats 4000000 in
theorem m_highestS {G : GT} {h : List PE} {s : ST} {t : Int32} {k sd : Nat} (hM : MoR h s) (hW : WS s) (hk : k < (sC s t).2.1) (hsd : sd < 6) : CT G mX12_highest 4 89 [.ref 36, .int (nI k), .int (nI sd), .int t] h (fun o => o.1 = some (.int (spHi (sR s t) (sC s t) (nI k) (nI sd))) ∧ MoR o.2 s ∧ Sm [36, 41, 42] h o.2) := by
  obtain ⟨thr, siz, too, frm, knd, num, sgn, plc, wrd, tld, now, lst, pfo, thk, are, ipd, mt, bk, dy, nm, cv, sv, k1, k2, k3, k4, k5, k6, k7, f36, f37, f38, f39, f40, f41, f42, f43, f44, f45, f46, f47, f48, f49, r1, r2, r3⟩ := hM
  have W := hW.cur t
  have hm : MB (s_n s) dy bk (s_dy s) (s_rc s) := ⟨hW.1, r2⟩
  have w4 := W.2.2.2.1
  obtain ⟨b, hlb⟩ := curC_some (n := s_n s) (sdy := s_dy s) (ct := s_ct s) (t := t) hk
  have RH : 484 * b + 484 ≤ 10164 ∧ ∀ j, j < 484 → bk (484 * b + j) = sR s t j := hm.rh hlb
  have WT := W.2.2.2.2.2.2.2.2.2.1 k hk
  have ck : tO (nI k) = 164 + 24 * k := by show 164 + 24 * (nI k).toNatClampNeg = _; rw [nI_clamp (by omega)]
  have cs : (nI sd).toNatClampNeg = sd := nI_clamp (by omega)
  obtain ⟨⟨wn, hw, hw1, hw2⟩, -⟩ := id WT
  have hw9 := nI_one hw1 (show wn < 2 ^ 31 by omega)
  rw [← hw] at hw9
  have nb1 : ¬ bT (sC s t) (nI k) := fun q => q.elim (nI_pos (by omega)) (fun q => absurd ((nI_leI (by omega) (by omega)).mp q) (by omega))
  have nb2 : ¬ bS (nI sd) := fun q => q.elim (nI_pos (by omega)) (fun q => absurd ((nI_leI (a := 6) (by decide) (by omega)).mp q) (by omega))
  have hok : ¬ (bT (sC s t) (nI k) ∨ bS (nI sd) ∨ bH 0) := fun q => q.elim nb1 (fun q => q.elim nb2 (by decide))
  have sm0 : Sm [36, 41, 42] h h := Sm.rf
  show X (NF G) G mX12_highest 4 89 0 [(0, .ref 36), (1, .int (nI k)), (2, .int (nI sd)), (3, .int t)] [] h _
  refine x_aload_n dX12_highest_0 0 rfl ?_
  refine x_iconst (v := 0) dX12_highest_1 (by decide) ?_
  refine x_put (fs2 := (MO 0 ((nI (s_tn s))) ((nI (s_td s))) ((nI (s_n s))) siz too frm knd num sgn ((s_fl s)) plc wrd tld now lst pfo thk are ((s_br s)) ipd ((s_bs s)))) dX12_highest_2 fX12_55 (Or.inl rfl) f36 (by decide) rfl rfl (Nat.le_of_ble_eq_true rfl) rfl (fun h1 a2 e3 l4 s5 => ?_)
  have f6 := (e3 38 (by decide)).trans f38
  have f7 := (e3 39 (by decide)).trans f39
  have f8 := (e3 41 (by decide)).trans f41
  have f9 := (e3 42 (by decide)).trans f42
  have sm10 := Sm.put sm0 e3 l4 s5 (by decide)
  refine x_aload_n dX12_highest_5 0 rfl ?_
  refine x_iload_n dX12_highest_6 1 rfl ?_
  refine x_iload_n dX12_highest_7 2 rfl ?_
  refine x_iconst (v := 0) dX12_highest_8 (by decide) ?_
  refine x_iload_n dX12_highest_9 3 rfl ?_
  refine x_callV (rf' := 3) (rl' := 65) [.int (nI k), .int (nI sd), .int 0, .int t] [] dX12_highest_10 vX12_248 Y_X12_isDropped a2 (by decide) rfl rfl (Nat.le_of_ble_eq_true rfl) (Nat.le_of_ble_eq_true rfl) (by decide) (by decide) (c_isDropped a2 f6 f7 hm W) (fun r h11 e1 => ?_)
  obtain ⟨e0, g12, sm13⟩ := e1
  cases e0
  rw [if_neg hok]
  rw [hlb] at g12
  have g12 : h11[36]? = some (cO 12 (MO 0 ((nI (s_tn s))) ((nI (s_td s))) ((nI (s_n s))) siz too frm knd num sgn ((s_fl s)) plc wrd tld ((nI (484 * b))) lst pfo thk are ((s_br s)) ipd ((s_bs s)))) := g12
  have f14 := sm13.at f6 (by decide)
  have f15 := sm13.at f7 (by decide)
  have f16 := sm13.at f8 (by decide)
  have f17 := sm13.at f9 (by decide)
  have sm18 := sm10.tr (sm13.wide (by decide))
  refine x_if_eq (tgt := 25) dX12_highest_13 (by decide) (fun c_13 => absurd c_13 (by decide)) (fun c_13 => ?_)
  refine x_aload_n dX12_highest_16 0 rfl ?_
  refine x_iload_n dX12_highest_17 1 rfl ?_
  refine x_iload_n dX12_highest_18 2 rfl ?_
  refine x_callV (rf' := 1) (rl' := 21) [.int (nI k), .int (nI sd)] [] dX12_highest_19 vX12_252 Y_X12_takePad g12 (by decide) rfl rfl (Nat.le_of_ble_eq_true rfl) (Nat.le_of_ble_eq_true rfl) (by decide) (by decide) (c_takePad g12 f14 RH (by omega) hsd) (fun r h19 e1 => ?_)
  obtain ⟨e0, g20, sm21⟩ := e1
  cases e0
  have f22 := sm21.at f14 (by decide)
  have f23 := sm21.at f15 (by decide)
  have f24 := sm21.at f16 (by decide)
  have f25 := sm21.at f17 (by decide)
  have sm26 := sm18.tr (sm21.wide (by decide))
  rcases pd_wf WT W.2.1 hsd with ⟨hpd, hp0⟩ | ⟨kf, hpd, hkf, hp0⟩
  · rw [if_pos (by rw [hp0]; decide)]
    refine x_if_ne (tgt := 27) dX12_highest_22 (by decide) (fun c_22 => absurd (by decide) c_22) (fun c_22 => ?_)
    refine x_iconst (v := (-1)) dX12_highest_25 (by decide) ?_
    exact x_iret dX12_highest_26 rfl ⟨by rw [spHi, if_neg (fun q => q.elim nb1 nb2), ck, cs, hw, nI_clamp (show wn < 2 ^ 31 by omega)]; rw [topF_0 (by unfold WI bN; rw [hpd])]; rfl, (moR g20 (sm26.at f37 (by decide)) (sm26.at f38 (by decide)) (sm26.at f39 (by decide)) (sm26.at f40 (by decide)) f24 f25 (sm26.at f43 (by decide)) (sm26.at f44 (by decide)) (sm26.at f45 (by decide)) (sm26.at f46 (by decide)) (sm26.at f47 (by decide)) (sm26.at f48 (by decide)) (sm26.at f49 (by decide)) r1 r2 r3), sm26⟩
  · rw [hp0, show nI (kf + 1) - 1 = nI kf from nI_pred kf] at g20 ⊢
    rw [if_neg (nI_pos (by have := W.2.1; omega))]
    obtain ⟨np, P, U, ke, pr, WF⟩ := W.2.2.2.2.2.2.2.2.1 kf hkf
    have WF := WF.canon
    have w8 := W.2.1
    refine x_if_ne (tgt := 27) dX12_highest_22 (by decide) (fun c_22 => ?_) (fun c_22 => absurd c_22 (by decide))
    refine x_aload_n dX12_highest_27 0 rfl ?_
    refine x_aload_n dX12_highest_28 0 rfl ?_
    refine x_get (v := .int (nI kf)) dX12_highest_29 fX12_239 g20 (by decide) rfl ?_
    refine x_bipush (v := 100) dX12_highest_32 (by decide) ?_
    refine x_callV (rf' := 1) (rl' := 21) [.int (nI kf), .int 100] [] dX12_highest_34 vX12_226 Y_X12_lay g20 (by decide) rfl rfl (Nat.le_of_ble_eq_true rfl) (Nat.le_of_ble_eq_true rfl) (by decide) (by decide) (c_layM (k := k) (sd := sd) g20 f22 f24 f25 RH WF (by omega)) (fun r h27 e31 => ?_)
    obtain ⟨e0, L30, g28, sm29⟩ := e31
    cases e0
    have f32 := sm29.at f22 (by decide)
    have f33 := sm29.at f23 (by decide)
    have sm34 := sm26.tr (sm29)
    obtain ⟨cv35, sv36, g37, g38, -⟩ := id L30
    refine x_iconst (v := (-1)) dX12_highest_37 (by decide) ?_
    refine x_istore (lv2 := [(4, .int (-1)), (0, .ref 36), (1, .int (nI k)), (2, .int (nI sd)), (3, .int t)]) dX12_highest_38 (by decide) rfl ?_
    refine x_sipush (v := 30001) dX12_highest_40 (by decide) ?_
    refine x_istore (lv2 := [(5, .int 30001), (4, .int (-1)), (0, .ref 36), (1, .int (nI k)), (2, .int (nI sd)), (3, .int t)]) dX12_highest_43 (by decide) rfl ?_
    rw [show (-1 : Int32) = lcI 0 from rfl]
    refine x_perm [0, 1, 2, 3] rfl ?_
    refine (lm_highest W hk hsd WF hpd RH hw hw1 hw2 L30 g28 f32 30001 0 30001 (by omega) (by omega) (topF_le _) (by omega)).weaken (fun o ho => ?_)
    subst ho
    refine ⟨?_, (moR g28 (sm34.at f37 (by decide)) (sm34.at f38 (by decide)) (sm34.at f39 (by decide)) (sm34.at f40 (by decide)) g37 g38 (sm34.at f43 (by decide)) (sm34.at f44 (by decide)) (sm34.at f45 (by decide)) (sm34.at f46 (by decide)) (sm34.at f47 (by decide)) (sm34.at f48 (by decide)) (sm34.at f49 (by decide)) r1 r2 r3), sm34⟩
    rw [spHi, if_neg (fun q => q.elim nb1 nb2), ck, cs, hw, nI_clamp (show wn < 2 ^ 31 by omega)]

theorem m_highest {G : GT} {h : List PE} {s : ST} {t : Int32} {th sd : Int32} (hM : MoR h s) (hW : WS s) : CT G mX12_highest 4 89 [.ref 36, .int th, .int sd, .int t] h (fun o => o.1 = some (.int (spHi (sR s t) (sC s t) th sd)) ∧ MoR o.2 s ∧ Sm [36, 41, 42] h o.2) := by
  by_cases h1 : bT (sC s t) th ∨ bS sd ∨ bH 0
  · exact m_highestN hM hW h1
  · have W := hW.cur t
    obtain ⟨k, hk, rfl⟩ := ix_of (by have := W.2.2.2.1; omega) (fun q => h1 (Or.inl q))
    obtain ⟨d, hd, rfl⟩ := ix_of (m := 6) (by decide) (fun q => h1 (Or.inr (Or.inl q)))
    exact m_highestS hM hW hk hd

theorem sq_WI {s : ST} {t : Int32} {k sd kf wn x : Nat} {bl : Int32} (W : WFk (sR s t) (sC s t)) (hk : k < (sC s t).2.1) (hsd : sd < 6) (hpd : pdF (sR s t) (164 + 24 * k) sd = some kf) (hw1 : 1 ≤ wn) (hw2 : wn ≤ 60000) (hx : x ≤ 30000) {q : Int32} (e : sqF (stR (sR s t) (4 + 20 * kf) 100) (nI wn).toInt64 (nI x).toInt64 (thR (sR s t) (164 + 24 * k) sd) (arR (sR s t) (164 + 24 * k) sd) 0 (cnR (sR s t) (4 + 20 * kf)) = q) : (q < 0 → (WI (sR s t) (164 + 24 * k) sd 100 wn bl.toInt) x = false) ∧ (¬ q < 0 → (WI (sR s t) (164 + 24 * k) sd 100 wn bl.toInt) x = decide (blF (cuR (sR s t) (4 + 20 * kf) 100 q.toNatClampNeg) (arR (sR s t) (164 + 24 * k) sd) (nI wn).toInt64 ≤ bl)) := by
  have h1 := WI_BL2 (kn := 100) (wn := wn) (h := x) (mk := bl) W hk hsd (by omega) hw1 (by omega) hx
  have h2 := HO_BL (kn := 100) (wn := wn) (hh := nI x) (mk := bl) W hk hsd (by omega) hw1 (by omega)
  rw [h1] at h2
  have h3 : HO (sR s t) (164 + 24 * k) sd 100 (nI wn) (nI x) bl = hoF (stR (sR s t) (4 + 20 * kf) 100) (cuR (sR s t) (4 + 20 * kf) 100) (cnR (sR s t) (4 + 20 * kf)) (thR (sR s t) (164 + 24 * k) sd) (arR (sR s t) (164 + 24 * k) sd) (nI wn) (nI x) bl := by
    unfold HO
    rw [hpd]
  have h4 : (WI (sR s t) (164 + 24 * k) sd 100 wn bl.toInt) x = HO (sR s t) (164 + 24 * k) sd 100 (nI wn) (nI x) bl := by
    have h2 : (WI (sR s t) (164 + 24 * k) sd 100 wn bl.toInt) x = false ↔ HO (sR s t) (164 + 24 * k) sd 100 (nI wn) (nI x) bl = false := h2
    cases e1 : (WI (sR s t) (164 + 24 * k) sd 100 wn bl.toInt) x <;> cases e2 : HO (sR s t) (164 + 24 * k) sd 100 (nI wn) (nI x) bl <;> simp_all
  rw [h4, h3]
  unfold hoF
  rw [e]
  exact ⟨fun z => by rw [if_pos z], fun z => by rw [if_neg z]⟩

set_option maxRecDepth 100000 in
set_option maxHeartbeats 4000000 in
theorem lm_above {G : GT} {h : List PE} {s : ST} {t : Int32} {bl : Int32} {k sd kf b wn : Nat} {siz too frm knd num sgn plc : Int32} {wrd : Int64} {tld ipd : Int32} {bk : Nat → Int32} (W : WFk (sR s t) (sC s t)) (hk : k < (sC s t).2.1) (hsd : sd < 6) (WF : WFc (sR s t) (4 + 20 * kf)) (hpd : pdF (sR s t) (164 + 24 * k) sd = some kf) (RH : 484 * b + 484 ≤ 10164 ∧ ∀ j, j < 484 → bk (484 * b + j) = sR s t j) (hw1 : 1 ≤ wn) (hw2 : wn ≤ 60000) (L : MLaid h (sR s t) k sd kf 100) (f36 : h[36]? = some (cO 12 (MO 0 ((nI (s_tn s))) ((nI (s_td s))) ((nI (s_n s))) siz too frm knd num sgn ((s_fl s)) plc wrd tld ((nI (484 * b))) ((nI (PR (sR s t) (4 + 20 * kf) (npR (sR s t) (4 + 20 * kf) - 1)))) ((nI kf)) (((sR s t) (164 + 24 * k + 5 + 3 * sd + 1))) (((sR s t) (164 + 24 * k + 5 + 3 * sd + 2))) ((s_br s)) ipd ((s_bs s))))) (f38 : h[38]? = some (cI 10164 bk)) : ∀ (m lo hi : Nat), hi - lo ≤ m → lo ≤ topF (WI (sR s t) (164 + 24 * k) sd 100 wn bl.toInt) → topF (WI (sR s t) (164 + 24 * k) sd 100 wn bl.toInt) ≤ hi → hi ≤ 30001 → X (NF G) G mX12_above 1 29 7 [(4, .int (nI hi)), (3, .int (lcI lo)), (0, .ref 36), (1, .int (nI wn)), (2, .int bl)] [] h (fun o => o = (some (.int (nI (topF (WI (sR s t) (164 + 24 * k) sd 100 wn bl.toInt)))), h)) := by
  have hD : Dn (WI (sR s t) (164 + 24 * k) sd 100 wn bl.toInt) := WI_dn W hk hsd
  have hc9 := cnR_le WF
  have hw9 := nI_one hw1 (show wn < 2 ^ 31 by omega)
  intro m
  induction m with
  | zero =>
    intro lo hi h0 h1 h2 h3
    refine x_iload dX12_above_7 0 rfl ?_
    refine x_iload_n dX12_above_9 1 rfl ?_
    refine x_isub dX12_above_10 ?_
    rw [lcI_sub (show lo ≤ hi + 1 by omega)]
    refine x_iconst (v := 1) dX12_above_11 (by decide) ?_
    refine x_icmp_leN (tgt := 81) (a := (hi + 1 - lo)) (b := 1) (by omega) (by omega) dX12_above_12 (by decide) (fun c_12 => ?_) (fun c_12 => absurd (by omega) c_12)
    refine x_iload dX12_above_81 0 rfl ?_
    exact x_iret dX12_above_83 rfl (by rw [show topF (WI (sR s t) (164 + 24 * k) sd 100 wn bl.toInt) = hi by omega])
  | succ m ih =>
    intro lo hi h0 h1 h2 h3
    refine x_iload dX12_above_7 0 rfl ?_
    refine x_iload_n dX12_above_9 1 rfl ?_
    refine x_isub dX12_above_10 ?_
    rw [lcI_sub (show lo ≤ hi + 1 by omega)]
    refine x_iconst (v := 1) dX12_above_11 (by decide) ?_
    refine x_icmp_leN (tgt := 81) (a := (hi + 1 - lo)) (b := 1) (by omega) (by omega) dX12_above_12 (by decide) (fun c_12 => ?_) (fun c_12 => ?_)
    · refine x_iload dX12_above_81 0 rfl ?_
      exact x_iret dX12_above_83 rfl (by rw [show topF (WI (sR s t) (164 + 24 * k) sd 100 wn bl.toInt) = hi by omega])
    · refine x_iload_n dX12_above_15 1 rfl ?_
      refine x_iload dX12_above_16 0 rfl ?_
      refine x_iload_n dX12_above_18 1 rfl ?_
      refine x_isub dX12_above_19 ?_
      rw [lcI_sub (show lo ≤ hi + 1 by omega)]
      refine x_iconst (v := 2) dX12_above_20 (by decide) ?_
      refine x_idivN (a := (hi + 1 - lo)) (b := 2) (by omega) (by omega) (by omega) dX12_above_21 ?_
      refine x_iadd dX12_above_22 ?_
      rw [lcI_add (show 1 ≤ lo + (hi + 1 - lo) / 2 by omega)]
      refine x_istore (lv2 := [(5, .int (nI (lo + (hi + 1 - lo) / 2 - 1))), (4, .int (nI hi)), (3, .int (lcI lo)), (0, .ref 36), (1, .int (nI wn)), (2, .int bl)]) dX12_above_23 (by decide) rfl ?_
      refine x_aload_n dX12_above_25 3 rfl ?_
      refine x_iload_n dX12_above_26 4 rfl ?_
      refine x_i2l dX12_above_27 ?_
      refine x_iload dX12_above_28 0 rfl ?_
      refine x_i2l dX12_above_30 ?_
      refine x_aload_n dX12_above_31 3 rfl ?_
      refine x_get (v := .int ((sR s t) (164 + 24 * k + 5 + 3 * sd + 1))) dX12_above_32 fX12_242 f36 (by decide) rfl ?_
      refine x_i2l dX12_above_35 ?_
      refine x_aload_n dX12_above_36 3 rfl ?_
      refine x_get (v := .int ((sR s t) (164 + 24 * k + 5 + 3 * sd + 2))) dX12_above_37 fX12_245 f36 (by decide) rfl ?_
      refine x_i2l dX12_above_40 ?_
      refine x_callV (rf' := 0) (rl' := 0) [.long ((nI wn)).toInt64, .long ((nI (lo + (hi + 1 - lo) / 2 - 1))).toInt64, .long (((sR s t) (164 + 24 * k + 5 + 3 * sd + 1))).toInt64, .long (((sR s t) (164 + 24 * k + 5 + 3 * sd + 2))).toInt64] [] dX12_above_41 vX12_258 Y_X12_squeezed f36 (by decide) rfl rfl (Nat.le_of_ble_eq_true rfl) (Nat.le_of_ble_eq_true rfl) (by decide) (by decide) (c_squeezedM f36 L WF) (fun _ _ e1 => ?_)
      cases e1
      have hq := sq_WI (bl := bl) W hk hsd hpd hw1 hw2 (x := (lo + (hi + 1 - lo) / 2 - 1)) (by omega) rfl
      have hs := sqF_cases (stR (sR s t) (4 + 20 * kf) 100) (nI wn).toInt64 (nI (lo + (hi + 1 - lo) / 2 - 1)).toInt64 (thR (sR s t) (164 + 24 * k) sd) (arR (sR s t) (164 + 24 * k) sd) (cnR (sR s t) (4 + 20 * kf)) 0
      generalize sqF (stR (sR s t) (4 + 20 * kf) 100) (nI wn).toInt64 (nI (lo + (hi + 1 - lo) / 2 - 1)).toInt64 (thR (sR s t) (164 + 24 * k) sd) (arR (sR s t) (164 + 24 * k) sd) 0 (cnR (sR s t) (4 + 20 * kf)) = q at hq hs ⊢
      obtain ⟨hq1, hq2⟩ := hq
      rcases hs with rfl | ⟨x, -, hx, rfl⟩
      · have hq1 := hq1 (by decide)
        refine x_istore (lv2 := [(6, .int (-2)), (5, .int (nI (lo + (hi + 1 - lo) / 2 - 1))), (4, .int (nI hi)), (3, .int (lcI lo)), (0, .ref 36), (1, .int (nI wn)), (2, .int bl)]) dX12_above_44 (by decide) rfl ?_
        refine x_iload dX12_above_46 0 rfl ?_
        refine x_if_lt (tgt := 68) dX12_above_48 (by decide) (fun c_48 => ?_) (fun c_48 => absurd (by decide) c_48)
        refine x_iload dX12_above_68 1 rfl ?_
        refine x_istore (lv2 := [(4, .int (nI (lo + (hi + 1 - lo) / 2 - 1))), (6, .int (-2)), (5, .int (nI (lo + (hi + 1 - lo) / 2 - 1))), (3, .int (lcI lo)), (0, .ref 36), (1, .int (nI wn)), (2, .int bl)]) dX12_above_70 (by decide) rfl ?_
        refine x_goto (tgt := 78) dX12_above_72 (by decide) ?_
        refine x_goto (tgt := 7) dX12_above_78 (by decide) ?_
        refine x_perm [0, 3, 4, 5, 6] rfl ?_
        have := topF_le_of hD (j := (lo + (hi + 1 - lo) / 2 - 1)) (by omega) hq1
        exact ih lo (lo + (hi + 1 - lo) / 2 - 1) (by omega) (by omega) (by omega) (by omega)
      · have hq2 := hq2 (nI_pos (by omega))
        rw [nI_clamp (by omega)] at hq2
        refine x_istore (lv2 := [(6, .int (nI x)), (5, .int (nI (lo + (hi + 1 - lo) / 2 - 1))), (4, .int (nI hi)), (3, .int (lcI lo)), (0, .ref 36), (1, .int (nI wn)), (2, .int bl)]) dX12_above_44 (by decide) rfl ?_
        refine x_iload dX12_above_46 0 rfl ?_
        refine x_if_ltN (a := x) (by omega) (tgt := 68) dX12_above_48 (by decide) ?_
        refine x_aload_n dX12_above_51 4 rfl ?_
        refine x_iload dX12_above_52 0 rfl ?_
        refine x_iload_n dX12_above_54 5 rfl ?_
        refine x_i2l dX12_above_55 ?_
        refine x_aload_n dX12_above_56 4 rfl ?_
        refine x_get (v := .int ((sR s t) (164 + 24 * k + 5 + 3 * sd + 2))) dX12_above_57 fX12_245 f36 (by decide) rfl ?_
        refine x_i2l dX12_above_60 ?_
        obtain ⟨cv2, sv2, g41, g42, ecv, esv⟩ := id L
        refine x_callV (rf' := 0) (rl' := 0) [.int (nI x), .long ((nI wn)).toInt64, .long (((sR s t) (164 + 24 * k + 5 + 3 * sd + 2))).toInt64] [] dX12_above_61 vX12_266 Y_X12_blowAt f36 (by decide) rfl rfl (Nat.le_of_ble_eq_true rfl) (Nat.le_of_ble_eq_true rfl) (by decide) (by decide) (c_blowAt f36 g41 (by omega) hw9.2) (fun _ _ e5 => ?_)
        cases e5
        rw [ecv x (by omega)]
        refine x_iload_n dX12_above_64 6 rfl ?_
        refine x_icmp_le (tgt := 75) dX12_above_65 (by decide) (fun c_65 => ?_) (fun c_65 => ?_)
        · refine x_iload dX12_above_75 1 rfl ?_
          refine x_istore_n (lv2 := [(3, .int (nI (lo + (hi + 1 - lo) / 2 - 1))), (6, .int (nI x)), (5, .int (nI (lo + (hi + 1 - lo) / 2 - 1))), (4, .int (nI hi)), (0, .ref 36), (1, .int (nI wn)), (2, .int bl)]) dX12_above_77 (by decide) rfl ?_
          refine x_goto (tgt := 7) dX12_above_78 (by decide) ?_
          rw [← lcI_succ (lo + (hi + 1 - lo) / 2 - 1)]
          refine x_perm [3, 0, 4, 5, 6] rfl ?_
          have := (topF_lt hD (j := (lo + (hi + 1 - lo) / 2 - 1)) (by omega)).mpr (by rw [hq2]; exact decide_eq_true c_65)
          exact ih ((lo + (hi + 1 - lo) / 2 - 1) + 1) hi (by omega) (by omega) (by omega) (by omega)
        · refine x_iload dX12_above_68 1 rfl ?_
          refine x_istore (lv2 := [(4, .int (nI (lo + (hi + 1 - lo) / 2 - 1))), (6, .int (nI x)), (5, .int (nI (lo + (hi + 1 - lo) / 2 - 1))), (3, .int (lcI lo)), (0, .ref 36), (1, .int (nI wn)), (2, .int bl)]) dX12_above_70 (by decide) rfl ?_
          refine x_goto (tgt := 78) dX12_above_72 (by decide) ?_
          refine x_goto (tgt := 7) dX12_above_78 (by decide) ?_
          refine x_perm [0, 3, 4, 5, 6] rfl ?_
          have := topF_le_of hD (j := (lo + (hi + 1 - lo) / 2 - 1)) (by omega) (by rw [hq2]; exact decide_eq_false c_65)
          exact ih lo (lo + (hi + 1 - lo) / 2 - 1) (by omega) (by omega) (by omega) (by omega)

set_option maxRecDepth 100000 in
set_option maxHeartbeats 4000000 in
theorem m_above {G : GT} {h : List PE} {s : ST} {t : Int32} {bl : Int32} {k sd kf b wn : Nat} {siz too frm knd num sgn plc : Int32} {wrd : Int64} {tld ipd : Int32} {bk : Nat → Int32} (W : WFk (sR s t) (sC s t)) (hk : k < (sC s t).2.1) (hsd : sd < 6) (WF : WFc (sR s t) (4 + 20 * kf)) (hpd : pdF (sR s t) (164 + 24 * k) sd = some kf) (RH : 484 * b + 484 ≤ 10164 ∧ ∀ j, j < 484 → bk (484 * b + j) = sR s t j) (hw1 : 1 ≤ wn) (hw2 : wn ≤ 60000) (L : MLaid h (sR s t) k sd kf 100) (f36 : h[36]? = some (cO 12 (MO 0 ((nI (s_tn s))) ((nI (s_td s))) ((nI (s_n s))) siz too frm knd num sgn ((s_fl s)) plc wrd tld ((nI (484 * b))) ((nI (PR (sR s t) (4 + 20 * kf) (npR (sR s t) (4 + 20 * kf) - 1)))) ((nI kf)) (((sR s t) (164 + 24 * k + 5 + 3 * sd + 1))) (((sR s t) (164 + 24 * k + 5 + 3 * sd + 2))) ((s_br s)) ipd ((s_bs s))))) (f38 : h[38]? = some (cI 10164 bk))  : CT G mX12_above 1 29 [.ref 36, .int (nI wn), .int bl] h (fun o => o = (some (.int (nI (topF (WI (sR s t) (164 + 24 * k) sd 100 wn bl.toInt)))), h)) := by
  show X (NF G) G mX12_above 1 29 0 [(0, .ref 36), (1, .int (nI wn)), (2, .int bl)] [] h _
  refine x_iconst (v := (-1)) dX12_above_0 (by decide) ?_
  refine x_istore_n (lv2 := [(3, .int (-1)), (0, .ref 36), (1, .int (nI wn)), (2, .int bl)]) dX12_above_1 (by decide) rfl ?_
  refine x_sipush (v := 30001) dX12_above_2 (by decide) ?_
  refine x_istore (lv2 := [(4, .int 30001), (3, .int (-1)), (0, .ref 36), (1, .int (nI wn)), (2, .int bl)]) dX12_above_5 (by decide) rfl ?_
  rw [show (-1 : Int32) = lcI 0 from rfl]
  refine x_perm [0, 1, 2, 3, 4] rfl ?_
  exact lm_above W hk hsd WF hpd RH hw1 hw2 L f36 f38 30001 0 30001 (by omega) (by omega) (topF_le _) (by omega)

set_option maxRecDepth 100000 in
set_option maxHeartbeats 4000000 in
theorem m_recordedN {G : GT} {h : List PE} {s : ST} {t : Int32} {th sd a b wh : Int32} (hM : MoR h s) (hW : WS s) (hbad : bT (sC s t) th ∨ bS sd ∨ bH 0) : CT G mX12_recorded 4 89 [.ref 36, .int th, .int sd, .int a, .int b, .int t, .int wh] h (fun o => o.1 = some (.int (spRe (sR s t) (sC s t) th sd a b wh)) ∧ MoR o.2 s ∧ Sm [36, 41, 42] h o.2) := by
  obtain ⟨thr, siz, too, frm, knd, num, sgn, plc, wrd, tld, now, lst, pfo, thk, are, ipd, mt, bk, dy, nm, cv, sv, k1, k2, k3, k4, k5, k6, k7, f36, f37, f38, f39, f40, f41, f42, f43, f44, f45, f46, f47, f48, f49, r1, r2, r3⟩ := hM
  have W := hW.cur t
  have hm : MB (s_n s) dy bk (s_dy s) (s_rc s) := ⟨hW.1, r2⟩
  have sm0 : Sm [36, 41, 42] h h := Sm.rf
  show X (NF G) G mX12_recorded 4 89 0 [(0, .ref 36), (1, .int th), (2, .int sd), (3, .int a), (4, .int b), (5, .int t), (6, .int wh)] [] h _
  refine x_aload_n dX12_recorded_0 0 rfl ?_
  refine x_iconst (v := 0) dX12_recorded_1 (by decide) ?_
  refine x_put (fs2 := (MO 0 ((nI (s_tn s))) ((nI (s_td s))) ((nI (s_n s))) siz too frm knd num sgn ((s_fl s)) plc wrd tld now lst pfo thk are ((s_br s)) ipd ((s_bs s)))) dX12_recorded_2 fX12_55 (Or.inl rfl) f36 (by decide) rfl rfl (Nat.le_of_ble_eq_true rfl) rfl (fun h1 a2 e3 l4 s5 => ?_)
  have f6 := (e3 38 (by decide)).trans f38
  have f7 := (e3 39 (by decide)).trans f39
  have f8 := (e3 41 (by decide)).trans f41
  have f9 := (e3 42 (by decide)).trans f42
  have sm10 := Sm.put sm0 e3 l4 s5 (by decide)
  refine x_aload_n dX12_recorded_5 0 rfl ?_
  refine x_iload_n dX12_recorded_6 1 rfl ?_
  refine x_iload_n dX12_recorded_7 2 rfl ?_
  refine x_iconst (v := 0) dX12_recorded_8 (by decide) ?_
  refine x_iload dX12_recorded_9 5 rfl ?_
  refine x_callV (rf' := 3) (rl' := 65) [.int th, .int sd, .int 0, .int t] [] dX12_recorded_11 vX12_248 Y_X12_isDropped a2 (by decide) rfl rfl (Nat.le_of_ble_eq_true rfl) (Nat.le_of_ble_eq_true rfl) (by decide) (by decide) (c_isDropped a2 f6 f7 hm W) (fun r h11 e1 => ?_)
  obtain ⟨e0, g12, sm13⟩ := e1
  cases e0
  rw [if_pos hbad]
  have f14 := sm13.at f6 (by decide)
  have f15 := sm13.at f7 (by decide)
  have f16 := sm13.at f8 (by decide)
  have f17 := sm13.at f9 (by decide)
  have sm18 := sm10.tr (sm13.wide (by decide))
  refine x_if_eq (tgt := 42) dX12_recorded_14 (by decide) (fun c_14 => ?_) (fun c_14 => absurd (by decide) c_14)
  refine x_iconst (v := (-1)) dX12_recorded_42 (by decide) ?_
  exact x_iret dX12_recorded_43 rfl ⟨by rw [spRe, if_pos (hbad.elim Or.inl (fun q => Or.inr (q.elim Or.inl (fun q => absurd q (by decide)))))], (moR g12 (sm18.at f37 (by decide)) (sm18.at f38 (by decide)) (sm18.at f39 (by decide)) (sm18.at f40 (by decide)) f16 f17 (sm18.at f43 (by decide)) (sm18.at f44 (by decide)) (sm18.at f45 (by decide)) (sm18.at f46 (by decide)) (sm18.at f47 (by decide)) (sm18.at f48 (by decide)) (sm18.at f49 (by decide)) r1 r2 r3), sm18⟩

theorem i32_pred {a : Int32} (h : (1 : Int32) ≤ a) : (a - 1).toInt = a.toInt - 1 := by
  have h1 := Int32.toInt_lt a
  rw [Int32.le_iff_toInt_le, show (1 : Int32).toInt = 1 from rfl] at h
  rw [Int32.toInt_sub, show (1 : Int32).toInt = 1 from rfl]
  exact Int.bmod_eq_of_le (by omega) (by omega)
theorem WI_neg {rec : Nat → Int32} {t sd kn wn h : Nat} {m : Int} (hm : m < 0) : WI rec t sd kn wn m h = false := by
  unfold WI
  cases bN rec t sd kn wn h with
  | none => rfl
  | some v => exact decide_eq_false (by omega)
theorem WI_sub {rec : Nat → Int32} {t sd kn wn : Nat} {m m' : Int} (hm : m ≤ m') : topF (WI rec t sd kn wn m) ≤ topF (WI rec t sd kn wn m') := topF_sub (fun j _ q => by
  unfold WI at q ⊢
  cases e : bN rec t sd kn wn j with
  | none => rw [e] at q; cases q
  | some v => rw [e] at q; exact decide_eq_true (by have := of_decide_eq_true q; omega))

theorem wh1 {wh : Int32} (h : ¬ (wh < 0 ∨ (1 : Int32) < wh)) (h2 : ¬ wh = 0) : wh = 1 := by
  obtain ⟨j, hj, rfl⟩ := ix_le (m := 1) (by decide) h
  rcases Nat.le_one_iff_eq_zero_or_eq_one.mp hj with rfl | rfl
  · exact absurd rfl h2
  · rfl

set_option maxRecDepth 100000 in
set_option maxHeartbeats 4000000 in
theorem m_recordedS {G : GT} {h : List PE} {s : ST} {t : Int32} {k sd : Nat} {a bb wh : Int32} (hM : MoR h s) (hW : WS s) (hk : k < (sC s t).2.1) (hsd : sd < 6) : CT G mX12_recorded 4 89 [.ref 36, .int (nI k), .int (nI sd), .int a, .int bb, .int t, .int wh] h (fun o => o.1 = some (.int (spRe (sR s t) (sC s t) (nI k) (nI sd) a bb wh)) ∧ MoR o.2 s ∧ Sm [36, 41, 42] h o.2) := by
  obtain ⟨thr, siz, too, frm, knd, num, sgn, plc, wrd, tld, now, lst, pfo, thk, are, ipd, mt, bk, dy, nm, cv, sv, k1, k2, k3, k4, k5, k6, k7, f36, f37, f38, f39, f40, f41, f42, f43, f44, f45, f46, f47, f48, f49, r1, r2, r3⟩ := hM
  have W := hW.cur t
  have hm : MB (s_n s) dy bk (s_dy s) (s_rc s) := ⟨hW.1, r2⟩
  have w4 := W.2.2.2.1
  obtain ⟨b, hlb⟩ := curC_some (n := s_n s) (sdy := s_dy s) (ct := s_ct s) (t := t) hk
  have RH : 484 * b + 484 ≤ 10164 ∧ ∀ j, j < 484 → bk (484 * b + j) = sR s t j := hm.rh hlb
  have WT := W.2.2.2.2.2.2.2.2.2.1 k hk
  have ck : tO (nI k) = 164 + 24 * k := by show 164 + 24 * (nI k).toNatClampNeg = _; rw [nI_clamp (by omega)]
  have cs : (nI sd).toNatClampNeg = sd := nI_clamp (by omega)
  obtain ⟨⟨wn, hw, hw1, hw2⟩, -⟩ := id WT
  have hw9 := nI_one hw1 (show wn < 2 ^ 31 by omega)
  rw [← hw] at hw9
  have nb1 : ¬ bT (sC s t) (nI k) := fun q => q.elim (nI_pos (by omega)) (fun q => absurd ((nI_leI (by omega) (by omega)).mp q) (by omega))
  have nb2 : ¬ bS (nI sd) := fun q => q.elim (nI_pos (by omega)) (fun q => absurd ((nI_leI (a := 6) (by decide) (by omega)).mp q) (by omega))
  have hok : ¬ (bT (sC s t) (nI k) ∨ bS (nI sd) ∨ bH 0) := fun q => q.elim nb1 (fun q => q.elim nb2 (by decide))
  have sm0 : Sm [36, 41, 42] h h := Sm.rf
  show X (NF G) G mX12_recorded 4 89 0 [(0, .ref 36), (1, .int (nI k)), (2, .int (nI sd)), (3, .int a), (4, .int bb), (5, .int t), (6, .int wh)] [] h _
  refine x_aload_n dX12_recorded_0 0 rfl ?_
  refine x_iconst (v := 0) dX12_recorded_1 (by decide) ?_
  refine x_put (fs2 := (MO 0 ((nI (s_tn s))) ((nI (s_td s))) ((nI (s_n s))) siz too frm knd num sgn ((s_fl s)) plc wrd tld now lst pfo thk are ((s_br s)) ipd ((s_bs s)))) dX12_recorded_2 fX12_55 (Or.inl rfl) f36 (by decide) rfl rfl (Nat.le_of_ble_eq_true rfl) rfl (fun h1 a2 e3 l4 s5 => ?_)
  have f6 := (e3 38 (by decide)).trans f38
  have f7 := (e3 39 (by decide)).trans f39
  have f8 := (e3 41 (by decide)).trans f41
  have f9 := (e3 42 (by decide)).trans f42
  have sm10 := Sm.put sm0 e3 l4 s5 (by decide)
  refine x_aload_n dX12_recorded_5 0 rfl ?_
  refine x_iload_n dX12_recorded_6 1 rfl ?_
  refine x_iload_n dX12_recorded_7 2 rfl ?_
  refine x_iconst (v := 0) dX12_recorded_8 (by decide) ?_
  refine x_iload dX12_recorded_9 5 rfl ?_
  refine x_callV (rf' := 3) (rl' := 65) [.int (nI k), .int (nI sd), .int 0, .int t] [] dX12_recorded_11 vX12_248 Y_X12_isDropped a2 (by decide) rfl rfl (Nat.le_of_ble_eq_true rfl) (Nat.le_of_ble_eq_true rfl) (by decide) (by decide) (c_isDropped a2 f6 f7 hm W) (fun r h11 e1 => ?_)
  obtain ⟨e0, g12, sm13⟩ := e1
  cases e0
  rw [if_neg hok]
  rw [hlb] at g12
  have g12 : h11[36]? = some (cO 12 (MO 0 ((nI (s_tn s))) ((nI (s_td s))) ((nI (s_n s))) siz too frm knd num sgn ((s_fl s)) plc wrd tld ((nI (484 * b))) lst pfo thk are ((s_br s)) ipd ((s_bs s)))) := g12
  have f14 := sm13.at f6 (by decide)
  have f15 := sm13.at f7 (by decide)
  have f16 := sm13.at f8 (by decide)
  have f17 := sm13.at f9 (by decide)
  have sm18 := sm10.tr (sm13.wide (by decide))
  refine x_if_eq (tgt := 42) dX12_recorded_14 (by decide) (fun c_14 => absurd c_14 (by decide)) (fun c_14 => ?_)
  refine x_iload dX12_recorded_17 4 rfl ?_
  refine x_iload_n dX12_recorded_19 3 rfl ?_
  refine x_icmp_lt (tgt := 42) dX12_recorded_20 (by decide) (fun c_20 => ?_) (fun c_20 => ?_)
  · refine x_iconst (v := (-1)) dX12_recorded_42 (by decide) ?_
    exact x_iret dX12_recorded_43 rfl ⟨((Classical.em (wh < 0 ∨ (1 : Int32) < wh)).elim (fun hA => by rw [spRe, if_pos (Or.inr (Or.inr hA))]) (fun hA => by rw [spRe, if_neg (fun q => q.elim nb1 (fun q => q.elim nb2 hA)), ck, cs, hw, nI_clamp (show wn < 2 ^ 31 by omega)]; rw [if_neg (Nat.not_lt.mpr (WI_sub (by rw [Int32.lt_iff_toInt_lt] at c_20; omega)))])), (moR g12 (sm18.at f37 (by decide)) (sm18.at f38 (by decide)) (sm18.at f39 (by decide)) (sm18.at f40 (by decide)) f16 f17 (sm18.at f43 (by decide)) (sm18.at f44 (by decide)) (sm18.at f45 (by decide)) (sm18.at f46 (by decide)) (sm18.at f47 (by decide)) (sm18.at f48 (by decide)) (sm18.at f49 (by decide)) r1 r2 r3), sm18⟩
  · refine x_iload dX12_recorded_23 6 rfl ?_
    refine x_iconst (v := 0) dX12_recorded_25 (by decide) ?_
    refine x_iconst (v := 1) dX12_recorded_26 (by decide) ?_
    refine x_callS (rf' := 0) (rl' := 0) [.int wh, .int 0, .int 1] [] dX12_recorded_27 vX12_65 Y_X12_isIn rfl rfl (Nat.le_of_ble_eq_true rfl) (Nat.le_of_ble_eq_true rfl) (by decide) (by decide) c_isIn (fun _ _ e19 => ?_)
    cases e19
    by_cases hA : wh < 0 ∨ (1 : Int32) < wh
    · rw [if_pos hA]
      refine x_if_eq (tgt := 42) dX12_recorded_30 (by decide) (fun c_30 => ?_) (fun c_30 => absurd (by decide) c_30)
      refine x_iconst (v := (-1)) dX12_recorded_42 (by decide) ?_
      exact x_iret dX12_recorded_43 rfl ⟨by rw [spRe, if_pos (Or.inr (Or.inr hA))], (moR g12 (sm18.at f37 (by decide)) (sm18.at f38 (by decide)) (sm18.at f39 (by decide)) (sm18.at f40 (by decide)) f16 f17 (sm18.at f43 (by decide)) (sm18.at f44 (by decide)) (sm18.at f45 (by decide)) (sm18.at f46 (by decide)) (sm18.at f47 (by decide)) (sm18.at f48 (by decide)) (sm18.at f49 (by decide)) r1 r2 r3), sm18⟩
    · rw [if_neg hA]
      refine x_if_eq (tgt := 42) dX12_recorded_30 (by decide) (fun c_30 => absurd c_30 (by decide)) (fun c_30 => ?_)
      refine x_aload_n dX12_recorded_33 0 rfl ?_
      refine x_iload_n dX12_recorded_34 1 rfl ?_
      refine x_iload_n dX12_recorded_35 2 rfl ?_
      refine x_callV (rf' := 1) (rl' := 21) [.int (nI k), .int (nI sd)] [] dX12_recorded_36 vX12_252 Y_X12_takePad g12 (by decide) rfl rfl (Nat.le_of_ble_eq_true rfl) (Nat.le_of_ble_eq_true rfl) (by decide) (by decide) (c_takePad g12 f14 RH (by omega) hsd) (fun r h20 e1 => ?_)
      obtain ⟨e0, g21, sm22⟩ := e1
      cases e0
      have f23 := sm22.at f14 (by decide)
      have f24 := sm22.at f15 (by decide)
      have f25 := sm22.at f16 (by decide)
      have f26 := sm22.at f17 (by decide)
      have sm27 := sm18.tr (sm22.wide (by decide))
      rcases pd_wf WT W.2.1 hsd with ⟨hpd, hp0⟩ | ⟨kf, hpd, hkf, hp0⟩
      · rw [if_pos (by rw [hp0]; decide)]
        refine x_if_ne (tgt := 44) dX12_recorded_39 (by decide) (fun c_39 => absurd (by decide) c_39) (fun c_39 => ?_)
        refine x_iconst (v := (-1)) dX12_recorded_42 (by decide) ?_
        exact x_iret dX12_recorded_43 rfl ⟨by rw [spRe, if_neg (fun q => q.elim nb1 (fun q => q.elim nb2 hA)), ck, cs, hw, nI_clamp (show wn < 2 ^ 31 by omega)]; rw [if_neg (by rw [topF_0 (p := WI (sR s t) (164 + 24 * k) sd 100 wn bb.toInt) (by unfold WI bN; rw [hpd])]; omega)], (moR g21 (sm27.at f37 (by decide)) (sm27.at f38 (by decide)) (sm27.at f39 (by decide)) (sm27.at f40 (by decide)) f25 f26 (sm27.at f43 (by decide)) (sm27.at f44 (by decide)) (sm27.at f45 (by decide)) (sm27.at f46 (by decide)) (sm27.at f47 (by decide)) (sm27.at f48 (by decide)) (sm27.at f49 (by decide)) r1 r2 r3), sm27⟩
      · rw [hp0, show nI (kf + 1) - 1 = nI kf from nI_pred kf] at g21 ⊢
        rw [if_neg (nI_pos (by have := W.2.1; omega))]
        obtain ⟨np, P, U, ke, pr, WF⟩ := W.2.2.2.2.2.2.2.2.1 kf hkf
        have WF := WF.canon
        have w8 := W.2.1
        refine x_if_ne (tgt := 44) dX12_recorded_39 (by decide) (fun c_39 => ?_) (fun c_39 => absurd c_39 (by decide))
        refine x_aload_n dX12_recorded_44 0 rfl ?_
        refine x_aload_n dX12_recorded_45 0 rfl ?_
        refine x_get (v := .int (nI kf)) dX12_recorded_46 fX12_239 g21 (by decide) rfl ?_
        refine x_bipush (v := 100) dX12_recorded_49 (by decide) ?_
        refine x_callV (rf' := 1) (rl' := 21) [.int (nI kf), .int 100] [] dX12_recorded_51 vX12_226 Y_X12_lay g21 (by decide) rfl rfl (Nat.le_of_ble_eq_true rfl) (Nat.le_of_ble_eq_true rfl) (by decide) (by decide) (c_layM (k := k) (sd := sd) g21 f23 f25 f26 RH WF (by omega)) (fun r h28 e32 => ?_)
        obtain ⟨e0, L31, g29, sm30⟩ := e32
        cases e0
        have f33 := sm30.at f23 (by decide)
        have f34 := sm30.at f24 (by decide)
        have sm35 := sm27.tr (sm30)
        obtain ⟨cv36, sv37, g38, g39, -⟩ := id L31
        refine x_aload_n dX12_recorded_54 0 rfl ?_
        refine x_iload_n dX12_recorded_55 1 rfl ?_
        refine x_callV (rf' := 1) (rl' := 21) [.int (nI k)] [] dX12_recorded_56 vX12_255 Y_X12_weightOf g29 (by decide) rfl rfl (Nat.le_of_ble_eq_true rfl) (Nat.le_of_ble_eq_true rfl) (by decide) (by decide) (c_weightOfR g29 f33 RH (by omega)) (fun _ _ e40 => ?_)
        cases e40
        rw [hw]
        refine x_istore (lv2 := [(7, .int (nI wn)), (0, .ref 36), (1, .int (nI k)), (2, .int (nI sd)), (3, .int a), (4, .int bb), (5, .int t), (6, .int wh)]) dX12_recorded_59 (by decide) rfl ?_
        have t1 := topF_le (WI (sR s t) (164 + 24 * k) sd 100 wn (a.toInt - 1))
        have t2 := topF_le (WI (sR s t) (164 + 24 * k) sd 100 wn bb.toInt)
        refine x_iload_n dX12_recorded_61 4 rfl ?_
        refine x_iconst (v := 1) dX12_recorded_62 (by decide) ?_
        refine x_icmp_ge (tgt := 70) dX12_recorded_63 (by decide) (fun c_63 => ?_) (fun c_63 => ?_)
        · refine x_aload_n dX12_recorded_70 1 rfl ?_
          refine x_iload dX12_recorded_71 0 rfl ?_
          refine x_iload_n dX12_recorded_73 4 rfl ?_
          refine x_iconst (v := 1) dX12_recorded_74 (by decide) ?_
          refine x_isub dX12_recorded_75 ?_
          refine x_callV (rf' := 1) (rl' := 29) [.int (nI wn), .int (a - 1)] [] dX12_recorded_76 vX12_279 Y_X12_above g29 (by decide) rfl rfl (Nat.le_of_ble_eq_true rfl) (Nat.le_of_ble_eq_true rfl) (by decide) (by decide) (m_above (bl := (a - 1)) W hk hsd WF hpd RH hw1 hw2 L31 g29 f33) (fun _ _ e41 => ?_)
          cases e41
          rw [i32_pred c_63]
          refine x_istore (lv2 := [(8, .int (nI (topF (WI (sR s t) (164 + 24 * k) sd 100 wn (a.toInt - 1))))), (7, .int (nI wn)), (0, .ref 36), (1, .int (nI k)), (2, .int (nI sd)), (3, .int a), (4, .int bb), (5, .int t), (6, .int wh)]) dX12_recorded_79 (by decide) rfl ?_
          refine x_aload_n dX12_recorded_81 2 rfl ?_
          refine x_iload dX12_recorded_82 1 rfl ?_
          refine x_iload dX12_recorded_84 6 rfl ?_
          refine x_callV (rf' := 1) (rl' := 29) [.int (nI wn), .int bb] [] dX12_recorded_86 vX12_279 Y_X12_above g29 (by decide) rfl rfl (Nat.le_of_ble_eq_true rfl) (Nat.le_of_ble_eq_true rfl) (by decide) (by decide) (m_above (bl := bb) W hk hsd WF hpd RH hw1 hw2 L31 g29 f33) (fun _ _ e42 => ?_)
          cases e42
          refine x_istore (lv2 := [(9, .int (nI (topF (WI (sR s t) (164 + 24 * k) sd 100 wn bb.toInt)))), (8, .int (nI (topF (WI (sR s t) (164 + 24 * k) sd 100 wn (a.toInt - 1))))), (7, .int (nI wn)), (0, .ref 36), (1, .int (nI k)), (2, .int (nI sd)), (3, .int a), (4, .int bb), (5, .int t), (6, .int wh)]) dX12_recorded_89 (by decide) rfl ?_
          refine x_iload dX12_recorded_91 1 rfl ?_
          refine x_iload dX12_recorded_93 0 rfl ?_
          refine x_icmp_ltN (tgt := 100) (a := (topF (WI (sR s t) (164 + 24 * k) sd 100 wn (a.toInt - 1)))) (b := (topF (WI (sR s t) (164 + 24 * k) sd 100 wn bb.toInt))) (by omega) (by omega) dX12_recorded_95 (by decide) (fun c_95 => ?_) (fun c_95 => ?_)
          · refine x_iload dX12_recorded_100 9 rfl ?_
            refine x_if_ne (tgt := 110) dX12_recorded_102 (by decide) (fun c_102 => ?_) (fun c_102 => ?_)
            · refine x_iload dX12_recorded_110 0 rfl ?_
              refine x_iconst (v := 1) dX12_recorded_112 (by decide) ?_
              refine x_isubN (a := (topF (WI (sR s t) (164 + 24 * k) sd 100 wn bb.toInt))) (b := 1) (by omega) dX12_recorded_113 ?_
              exact x_iret dX12_recorded_114 rfl ⟨by rw [spRe, if_neg (fun q => q.elim nb1 (fun q => q.elim nb2 hA)), ck, cs, hw, nI_clamp (show wn < 2 ^ 31 by omega)]; rw [if_pos c_95, if_pos (wh1 hA c_102), lcI_pos (by omega)], (moR g29 (sm35.at f37 (by decide)) (sm35.at f38 (by decide)) (sm35.at f39 (by decide)) (sm35.at f40 (by decide)) g38 g39 (sm35.at f43 (by decide)) (sm35.at f44 (by decide)) (sm35.at f45 (by decide)) (sm35.at f46 (by decide)) (sm35.at f47 (by decide)) (sm35.at f48 (by decide)) (sm35.at f49 (by decide)) r1 r2 r3), sm35⟩
            · refine x_iload dX12_recorded_105 1 rfl ?_
              refine x_goto (tgt := 114) dX12_recorded_107 (by decide) ?_
              exact x_iret dX12_recorded_114 rfl ⟨by rw [spRe, if_neg (fun q => q.elim nb1 (fun q => q.elim nb2 hA)), ck, cs, hw, nI_clamp (show wn < 2 ^ 31 by omega)]; rw [if_pos c_95, if_neg (by rw [c_102]; decide)], (moR g29 (sm35.at f37 (by decide)) (sm35.at f38 (by decide)) (sm35.at f39 (by decide)) (sm35.at f40 (by decide)) g38 g39 (sm35.at f43 (by decide)) (sm35.at f44 (by decide)) (sm35.at f45 (by decide)) (sm35.at f46 (by decide)) (sm35.at f47 (by decide)) (sm35.at f48 (by decide)) (sm35.at f49 (by decide)) r1 r2 r3), sm35⟩
          · refine x_iconst (v := (-1)) dX12_recorded_98 (by decide) ?_
            exact x_iret dX12_recorded_99 rfl ⟨by rw [spRe, if_neg (fun q => q.elim nb1 (fun q => q.elim nb2 hA)), ck, cs, hw, nI_clamp (show wn < 2 ^ 31 by omega)]; rw [if_neg c_95], (moR g29 (sm35.at f37 (by decide)) (sm35.at f38 (by decide)) (sm35.at f39 (by decide)) (sm35.at f40 (by decide)) g38 g39 (sm35.at f43 (by decide)) (sm35.at f44 (by decide)) (sm35.at f45 (by decide)) (sm35.at f46 (by decide)) (sm35.at f47 (by decide)) (sm35.at f48 (by decide)) (sm35.at f49 (by decide)) r1 r2 r3), sm35⟩
        · refine x_iconst (v := 0) dX12_recorded_66 (by decide) ?_
          refine x_goto (tgt := 79) dX12_recorded_67 (by decide) ?_
          rw [show (0 : Int32) = nI (topF (WI (sR s t) (164 + 24 * k) sd 100 wn (a.toInt - 1))) from by (rw [topF_0 (WI_neg (by have := Int32.not_le.mp c_63; rw [Int32.lt_iff_toInt_lt, show (1 : Int32).toInt = 1 from rfl] at this; omega))]; rfl)]
          refine x_istore (lv2 := [(8, .int (nI (topF (WI (sR s t) (164 + 24 * k) sd 100 wn (a.toInt - 1))))), (7, .int (nI wn)), (0, .ref 36), (1, .int (nI k)), (2, .int (nI sd)), (3, .int a), (4, .int bb), (5, .int t), (6, .int wh)]) dX12_recorded_79 (by decide) rfl ?_
          refine x_aload_n dX12_recorded_81 2 rfl ?_
          refine x_iload dX12_recorded_82 1 rfl ?_
          refine x_iload dX12_recorded_84 6 rfl ?_
          refine x_callV (rf' := 1) (rl' := 29) [.int (nI wn), .int bb] [] dX12_recorded_86 vX12_279 Y_X12_above g29 (by decide) rfl rfl (Nat.le_of_ble_eq_true rfl) (Nat.le_of_ble_eq_true rfl) (by decide) (by decide) (m_above (bl := bb) W hk hsd WF hpd RH hw1 hw2 L31 g29 f33) (fun _ _ e43 => ?_)
          cases e43
          refine x_istore (lv2 := [(9, .int (nI (topF (WI (sR s t) (164 + 24 * k) sd 100 wn bb.toInt)))), (8, .int (nI (topF (WI (sR s t) (164 + 24 * k) sd 100 wn (a.toInt - 1))))), (7, .int (nI wn)), (0, .ref 36), (1, .int (nI k)), (2, .int (nI sd)), (3, .int a), (4, .int bb), (5, .int t), (6, .int wh)]) dX12_recorded_89 (by decide) rfl ?_
          refine x_iload dX12_recorded_91 1 rfl ?_
          refine x_iload dX12_recorded_93 0 rfl ?_
          refine x_icmp_ltN (tgt := 100) (a := (topF (WI (sR s t) (164 + 24 * k) sd 100 wn (a.toInt - 1)))) (b := (topF (WI (sR s t) (164 + 24 * k) sd 100 wn bb.toInt))) (by omega) (by omega) dX12_recorded_95 (by decide) (fun c_95 => ?_) (fun c_95 => ?_)
          · refine x_iload dX12_recorded_100 9 rfl ?_
            refine x_if_ne (tgt := 110) dX12_recorded_102 (by decide) (fun c_102 => ?_) (fun c_102 => ?_)
            · refine x_iload dX12_recorded_110 0 rfl ?_
              refine x_iconst (v := 1) dX12_recorded_112 (by decide) ?_
              refine x_isubN (a := (topF (WI (sR s t) (164 + 24 * k) sd 100 wn bb.toInt))) (b := 1) (by omega) dX12_recorded_113 ?_
              exact x_iret dX12_recorded_114 rfl ⟨by rw [spRe, if_neg (fun q => q.elim nb1 (fun q => q.elim nb2 hA)), ck, cs, hw, nI_clamp (show wn < 2 ^ 31 by omega)]; rw [if_pos c_95, if_pos (wh1 hA c_102), lcI_pos (by omega)], (moR g29 (sm35.at f37 (by decide)) (sm35.at f38 (by decide)) (sm35.at f39 (by decide)) (sm35.at f40 (by decide)) g38 g39 (sm35.at f43 (by decide)) (sm35.at f44 (by decide)) (sm35.at f45 (by decide)) (sm35.at f46 (by decide)) (sm35.at f47 (by decide)) (sm35.at f48 (by decide)) (sm35.at f49 (by decide)) r1 r2 r3), sm35⟩
            · refine x_iload dX12_recorded_105 1 rfl ?_
              refine x_goto (tgt := 114) dX12_recorded_107 (by decide) ?_
              exact x_iret dX12_recorded_114 rfl ⟨by rw [spRe, if_neg (fun q => q.elim nb1 (fun q => q.elim nb2 hA)), ck, cs, hw, nI_clamp (show wn < 2 ^ 31 by omega)]; rw [if_pos c_95, if_neg (by rw [c_102]; decide)], (moR g29 (sm35.at f37 (by decide)) (sm35.at f38 (by decide)) (sm35.at f39 (by decide)) (sm35.at f40 (by decide)) g38 g39 (sm35.at f43 (by decide)) (sm35.at f44 (by decide)) (sm35.at f45 (by decide)) (sm35.at f46 (by decide)) (sm35.at f47 (by decide)) (sm35.at f48 (by decide)) (sm35.at f49 (by decide)) r1 r2 r3), sm35⟩
          · refine x_iconst (v := (-1)) dX12_recorded_98 (by decide) ?_
            exact x_iret dX12_recorded_99 rfl ⟨by rw [spRe, if_neg (fun q => q.elim nb1 (fun q => q.elim nb2 hA)), ck, cs, hw, nI_clamp (show wn < 2 ^ 31 by omega)]; rw [if_neg c_95], (moR g29 (sm35.at f37 (by decide)) (sm35.at f38 (by decide)) (sm35.at f39 (by decide)) (sm35.at f40 (by decide)) g38 g39 (sm35.at f43 (by decide)) (sm35.at f44 (by decide)) (sm35.at f45 (by decide)) (sm35.at f46 (by decide)) (sm35.at f47 (by decide)) (sm35.at f48 (by decide)) (sm35.at f49 (by decide)) r1 r2 r3), sm35⟩

theorem m_recorded {G : GT} {h : List PE} {s : ST} {t : Int32} {th sd : Int32} {a bb wh : Int32} (hM : MoR h s) (hW : WS s) : CT G mX12_recorded 4 89 [.ref 36, .int th, .int sd, .int a, .int bb, .int t, .int wh] h (fun o => o.1 = some (.int (spRe (sR s t) (sC s t) th sd a bb wh)) ∧ MoR o.2 s ∧ Sm [36, 41, 42] h o.2) := by
  by_cases h1 : bT (sC s t) th ∨ bS sd ∨ bH 0
  · exact m_recordedN hM hW h1
  · have W := hW.cur t
    obtain ⟨k, hk, rfl⟩ := ix_of (by have := W.2.2.2.1; omega) (fun q => h1 (Or.inl q))
    obtain ⟨d, hd, rfl⟩ := ix_of (m := 6) (by decide) (fun q => h1 (Or.inr (Or.inl q)))
    exact m_recordedS hM hW hk hd

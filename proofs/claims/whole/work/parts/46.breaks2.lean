def s_setBr (s : ST) (b : Int32) : ST := (s.1, s.2.1, s.2.2.1, s.2.2.2.1, s.2.2.2.2.1, s.2.2.2.2.2.1, s.2.2.2.2.2.2.1, s.2.2.2.2.2.2.2.1, b, s.2.2.2.2.2.2.2.2.2)
/-- the model within breaks -/
def BrS (h : List PE) (s : ST) (b : Nat) (ipd brk : Int32) (bk kp : Nat → Int32) : Prop := ∃ (siz too frm knd num sgn plc : Int32) (wrd : Int64) (tld lst pfo thk are : Int32) (cv : Nat → Int32) (sv : Nat → Int64), h[36]? = some (cO 12 (MO 0 ((nI (s_tn s))) ((nI (s_td s))) ((nI (s_n s))) siz too frm knd num sgn ((s_fl s)) plc wrd tld ((nI (484 * b))) lst pfo thk are brk ipd ((s_bs s)))) ∧ h[38]? = some (cI 10164 bk) ∧ h[41]? = some (cI 96 cv) ∧ h[42]? = some (cJ 96 sv) ∧ h[43]? = some (cI 6 kp)

set_option maxRecDepth 100000 in
set_option maxHeartbeats 4000000 in
theorem m_breaksN {G : GT} {h : List PE} {s : ST} {t : Int32} {th : Int32} (hM : MoR h s) (hW : WS s) (hs : bT (sC s t) th) : CT G mX12_breaks 3 65 [.ref 36, .int th, .int t] h (fun o => o.1 = some (.int (spBkA (sR s t) (sC s t) th)) ∧ MoR o.2 (s_setBr s (spBkT (sR s t) (sC s t) th (s_br s))) ∧ Sm [36, 41, 42, 43] h o.2) := by
  obtain ⟨thr, siz, too, frm, knd, num, sgn, plc, wrd, tld, now, lst, pfo, thk, are, ipd, mt, bk, dy, nm, cv, sv, k1, k2, k3, k4, k5, k6, k7, f36, f37, f38, f39, f40, f41, f42, f43, f44, f45, f46, f47, f48, f49, r1, r2, r3⟩ := hM
  have W := hW.cur t
  have hm : MB (s_n s) dy bk (s_dy s) (s_rc s) := ⟨hW.1, r2⟩
  have sm0 : Sm [36, 41, 42, 43] h h := Sm.rf
  show X (NF G) G mX12_breaks 3 65 0 [(0, .ref 36), (1, .int th), (2, .int t)] [] h _
  refine x_aload_n dX12_breaks_0 0 rfl ?_
  refine x_iconst (v := 0) dX12_breaks_1 (by decide) ?_
  refine x_put (fs2 := (MO 0 ((nI (s_tn s))) ((nI (s_td s))) ((nI (s_n s))) siz too frm knd num sgn ((s_fl s)) plc wrd tld now lst pfo thk are ((s_br s)) ipd ((s_bs s)))) dX12_breaks_2 fX12_55 (Or.inl rfl) f36 (by decide) rfl rfl (Nat.le_of_ble_eq_true rfl) rfl (fun h1 a2 e3 l4 s5 => ?_)
  have f6 := (e3 38 (by decide)).trans f38
  have f7 := (e3 39 (by decide)).trans f39
  have f8 := (e3 41 (by decide)).trans f41
  have f9 := (e3 42 (by decide)).trans f42
  have f10 := (e3 43 (by decide)).trans f43
  have sm11 := Sm.put sm0 e3 l4 s5 (by decide)
  refine x_aload_n dX12_breaks_5 0 rfl ?_
  refine x_iconst (v := 1) dX12_breaks_6 (by decide) ?_
  refine x_iload_n dX12_breaks_7 1 rfl ?_
  refine x_iload_n dX12_breaks_8 2 rfl ?_
  refine x_callV (rf' := 2) (rl' := 42) [.int 1, .int th, .int t] [] dX12_breaks_9 vX12_223 Y_X12_has a2 (by decide) rfl rfl (Nat.le_of_ble_eq_true rfl) (Nat.le_of_ble_eq_true rfl) (by decide) (by decide) (c_has (q := 1) a2 f6 f7 hm W (by decide)) (fun r h12 e1 => ?_)
  obtain ⟨e0, g13, sm14⟩ := e1
  cases e0
  rw [show cQ (curC (s_n s) (s_dy s) (s_ct s) t) 1 = (sC s t).2.1 from rfl, if_pos hs]
  have f15 := sm14.at f6 (by decide)
  have f16 := sm14.at f7 (by decide)
  have f17 := sm14.at f8 (by decide)
  have f18 := sm14.at f9 (by decide)
  have f19 := sm14.at f10 (by decide)
  have sm20 := sm11.tr (sm14.wide (by decide))
  refine x_if_ne (tgt := 18) dX12_breaks_12 (by decide) (fun c_12 => absurd (by decide) c_12) (fun c_12 => ?_)
  refine x_bipush (v := (-2)) dX12_breaks_15 (by decide) ?_
  exact x_iret dX12_breaks_17 rfl ⟨by rw [spBkA, if_pos hs], by unfold spBkT spBk; rw [if_pos hs]; exact (moR (s := s_setBr s (s_br s)) g13 (sm20.at f37 (by decide)) f15 f16 (sm20.at f40 (by decide)) f17 f18 f19 (sm20.at f44 (by decide)) (sm20.at f45 (by decide)) (sm20.at f46 (by decide)) (sm20.at f47 (by decide)) (sm20.at f48 (by decide)) (sm20.at f49 (by decide)) r1 r2 r3), sm20⟩

set_option maxRecDepth 100000 in
set_option maxHeartbeats 4000000 in
theorem lm_brIn {G : GT} {s : ST} {t brk ipd : Int32} {k sd d b tm kE : Nat} {Q : OT → Prop} {bk : Nat → Int32} (W : WFk (sR s t) (sC s t)) (hk : k < (sC s t).2.1) (hsd : sd < 6) (hd20 : d < 20) (RH : 484 * b + 484 ≤ 10164 ∧ ∀ j, j < 484 → bk (484 * b + j) = sR s t j) (hw9 : ¬ ((sR s t) (164 + 24 * k)).toInt64 = 0) (e1 : (sR s t) (404 + 4 * d + 1) = nI sd) (e3 : (sR s t) (404 + 4 * d + 3) = nI tm) (htm : tm ≤ 20) (hke : kE ≤ 100) (eke : keP (sR s t) (164 + 24 * k) sd = nI kE) : ∀ (m i kn : Nat) (kp : Nat → Int32) (h : List PE), tm + 1 - i = m → i ≤ tm + 1 → kn ≤ 200 → kp sd = nI kn → BrS h s b ipd brk bk kp → (∀ x, tbF (fun kept => HO (sR s t) (164 + 24 * k) sd (nI kept) ((sR s t) (164 + 24 * k)) ((sR s t) (404 + 4 * d + 2)) ((sR s t) (164 + 24 * k + 4))) kE m i kn = .inl x → ∀ (h' : List PE) (kp' : Nat → Int32), BrS h' s b ipd (nI x) bk kp' → Sm [36, 41, 42, 43] h h' → Q (some (.int (nI d)), h')) → (∀ x, tbF (fun kept => HO (sR s t) (164 + 24 * k) sd (nI kept) ((sR s t) (164 + 24 * k)) ((sR s t) (404 + 4 * d + 2)) ((sR s t) (164 + 24 * k + 4))) kE m i kn = .inr x → ∀ (h' : List PE) (kp' : Nat → Int32), (∀ j, j < 6 → kp' j = if j = sd then nI x else kp j) → BrS h' s b ipd brk bk kp' → Sm [36, 41, 42, 43] h h' → X (NF G) G mX12_breaks 3 65 200 [(3, .int (nI d)), (0, .ref 36), (1, .int (nI k))] [] h' Q) → X (NF G) G mX12_breaks 3 65 86 [(6, .int (nI i)), (3, .int (nI d)), (4, .int (nI (404 + 4 * d))), (5, .int (nI sd)), (0, .ref 36), (1, .int (nI k))] [] h Q := by
  have w4 := W.2.2.2.1
  have WT := W.2.2.2.2.2.2.2.2.2.1 k hk
  intro m
  induction m with
  | zero =>
    intro i kn kp h hm hi hkn hkp hS KB KD
    obtain ⟨siz, too, frm, knd, num, sgn, plc, wrd, tld, lst, pfo, thk, are, cv, sv, f36, f38, f41, f42, f43⟩ := id hS
    refine x_iload dX12_breaks_86 0 rfl ?_
    refine x_aload_n dX12_breaks_88 4 rfl ?_
    refine x_iload dX12_breaks_89 2 rfl ?_
    refine x_iconst (v := 3) dX12_breaks_91 (by decide) ?_
    refine x_iaddN (a := (404 + 4 * d)) (b := 3) dX12_breaks_92 ?_
    refine x_callV (rf' := 0) (rl' := 0) [.int (nI ((404 + 4 * d) + 3))] [.int (nI i)] dX12_breaks_93 vX12_217 Y_X12_of f36 (by decide) rfl rfl (Nat.le_of_ble_eq_true rfl) (Nat.le_of_ble_eq_true rfl) (by decide) (by decide) (c_ofR (k := ((404 + 4 * d) + 3)) f36 f38 RH (by omega)) (fun _ _ e1 => ?_)
    cases e1
    rw [e3]
    refine x_icmp_gtN (tgt := 200) (a := i) (b := tm) (by omega) (by omega) dX12_breaks_96 (by decide) (fun c_96 => ?_) (fun c_96 => absurd (by omega) c_96)
    refine x_perm [1, 4, 5] rfl ?_
    exact KD kn rfl h kp (fun j hj => by by_cases e : j = sd <;> simp [e, hkp]) hS Sm.rf
  | succ m ih =>
    intro i kn kp h hm hi hkn hkp hS KB KD
    obtain ⟨siz, too, frm, knd, num, sgn, plc, wrd, tld, lst, pfo, thk, are, cv, sv, f36, f38, f41, f42, f43⟩ := id hS
    have sm0 : Sm [36, 41, 42, 43] h h := Sm.rf
    refine x_iload dX12_breaks_86 0 rfl ?_
    refine x_aload_n dX12_breaks_88 4 rfl ?_
    refine x_iload dX12_breaks_89 2 rfl ?_
    refine x_iconst (v := 3) dX12_breaks_91 (by decide) ?_
    refine x_iaddN (a := (404 + 4 * d)) (b := 3) dX12_breaks_92 ?_
    refine x_callV (rf' := 0) (rl' := 0) [.int (nI ((404 + 4 * d) + 3))] [.int (nI i)] dX12_breaks_93 vX12_217 Y_X12_of f36 (by decide) rfl rfl (Nat.le_of_ble_eq_true rfl) (Nat.le_of_ble_eq_true rfl) (by decide) (by decide) (c_ofR (k := ((404 + 4 * d) + 3)) f36 f38 RH (by omega)) (fun _ _ e101 => ?_)
    cases e101
    rw [e3]
    refine x_icmp_gtN (tgt := 200) (a := i) (b := tm) (by omega) (by omega) dX12_breaks_96 (by decide) (fun c_96 => absurd c_96 (by omega)) (fun c_96 => ?_)
    refine x_aload_n dX12_breaks_99 4 rfl ?_
    refine x_iload_n dX12_breaks_100 5 rfl ?_
    refine x_iload dX12_breaks_101 3 rfl ?_
    refine x_callV (rf' := 1) (rl' := 21) [.int (nI k), .int (nI sd)] [] dX12_breaks_103 vX12_252 Y_X12_takePad f36 (by decide) rfl rfl (Nat.le_of_ble_eq_true rfl) (Nat.le_of_ble_eq_true rfl) (by decide) (by decide) (c_takePad f36 f38 RH (by omega) hsd) (fun r h102 e1 => ?_)
    obtain ⟨e0, g103, sm104⟩ := e1
    cases e0
    have f105 := sm104.at f38 (by decide)
    have f106 := sm104.at f41 (by decide)
    have f107 := sm104.at f42 (by decide)
    have f108 := sm104.at f43 (by decide)
    have sm109 := sm0.tr (sm104.wide (by decide))
    rcases pd_wf WT W.2.1 hsd with ⟨hpd, hp0⟩ | ⟨kf, hpd, hkf, hp0⟩
    · rw [if_pos (by rw [hp0]; decide)]
      refine x_istore (lv2 := [(7, .int 0), (6, .int (nI i)), (3, .int (nI d)), (4, .int (nI (404 + 4 * d))), (5, .int (nI sd)), (0, .ref 36), (1, .int (nI k))]) dX12_breaks_106 (by decide) rfl ?_
      refine x_iload dX12_breaks_108 0 rfl ?_
      refine x_if_eq (tgt := 178) dX12_breaks_110 (by decide) (fun c_110 => ?_) (fun c_110 => absurd (by decide) c_110)
      refine x_iload dX12_breaks_178 0 rfl ?_
      refine x_if_eq (tgt := 186) dX12_breaks_180 (by decide) (fun c_180 => ?_) (fun c_180 => absurd (by decide) c_180)
      refine x_aload_n dX12_breaks_186 5 rfl ?_
      refine x_iload dX12_breaks_187 1 rfl ?_
      refine x_put (fs2 := (MO 0 ((nI (s_tn s))) ((nI (s_td s))) ((nI (s_n s))) siz too frm knd num sgn ((s_fl s)) plc wrd tld ((nI (484 * b))) lst (((sR s t) (164 + 24 * k + 5 + 3 * sd) - 1)) (((sR s t) (164 + 24 * k + 5 + 3 * sd + 1))) (((sR s t) (164 + 24 * k + 5 + 3 * sd + 2))) ((nI i)) ipd ((s_bs s)))) dX12_breaks_189 fX12_29 (Or.inl rfl) g103 (by decide) rfl rfl (Nat.le_of_ble_eq_true rfl) rfl (fun h110 a111 e112 l113 s114 => ?_)
      have f115 := (e112 38 (by decide)).trans f105
      have f116 := (e112 41 (by decide)).trans f106
      have f117 := (e112 42 (by decide)).trans f107
      have f118 := (e112 43 (by decide)).trans f108
      have sm119 := Sm.put sm109 e112 l113 s114 (by decide)
      refine x_iload_n dX12_breaks_192 2 rfl ?_
      exact x_iret dX12_breaks_193 rfl (KB i (by rw [tbF, if_neg (by unfold HO; rw [hpd]; exact Bool.false_ne_true)]) _ _ ⟨_, _, _, _, _, _, _, _, _, _, _, _, _, _, _, a111, f115, f116, f117, f118⟩ sm119)
    · rw [hp0, show nI (kf + 1) - 1 = nI kf from nI_pred kf] at g103 ⊢
      rw [if_neg (nI_pos (by have := W.2.1; omega))]
      obtain ⟨np, P, U, ke, pr, WF⟩ := W.2.2.2.2.2.2.2.2.1 kf hkf
      have WF := WF.canon
      have w8 := W.2.1
      refine x_istore (lv2 := [(7, .int 1), (6, .int (nI i)), (3, .int (nI d)), (4, .int (nI (404 + 4 * d))), (5, .int (nI sd)), (0, .ref 36), (1, .int (nI k))]) dX12_breaks_106 (by decide) rfl ?_
      refine x_iload dX12_breaks_108 0 rfl ?_
      refine x_if_eq (tgt := 178) dX12_breaks_110 (by decide) (fun c_110 => absurd c_110 (by decide)) (fun c_110 => ?_)
      refine x_aload_n dX12_breaks_113 5 rfl ?_
      refine x_aload_n dX12_breaks_114 5 rfl ?_
      refine x_get (v := .int (nI kf)) dX12_breaks_115 fX12_239 g103 (by decide) rfl ?_
      refine x_aload_n dX12_breaks_118 5 rfl ?_
      refine x_get (v := .ref 43) dX12_breaks_119 fX12_33 g103 (by decide) rfl ?_
      refine x_iload dX12_breaks_122 4 rfl ?_
      refine x_ialdN (i := sd) dX12_breaks_124 f108 (by decide) (by omega) (by decide) ?_
      rw [hkp]
      refine x_callV (rf' := 1) (rl' := 21) [.int (nI kf), .int (nI kn)] [] dX12_breaks_125 vX12_226 Y_X12_lay g103 (by decide) rfl rfl (Nat.le_of_ble_eq_true rfl) (Nat.le_of_ble_eq_true rfl) (by decide) (by decide) (c_layM (k := k) (sd := sd) g103 f105 f106 f107 RH WF (by omega)) (fun r h120 e124 => ?_)
      obtain ⟨e0, L123, g121, sm122⟩ := e124
      cases e0
      have f125 := sm122.at f105 (by decide)
      have f126 := sm122.at f108 (by decide)
      have sm127 := sm109.tr (sm122.wide (by decide))
      obtain ⟨cv128, sv129, g130, g131, -⟩ := id L123
      refine x_aload_n dX12_breaks_128 5 rfl ?_
      refine x_aload_n dX12_breaks_129 5 rfl ?_
      refine x_iload_n dX12_breaks_130 6 rfl ?_
      refine x_callV (rf' := 1) (rl' := 21) [.int (nI k)] [.ref 36] dX12_breaks_131 vX12_255 Y_X12_weightOf g121 (by decide) rfl rfl (Nat.le_of_ble_eq_true rfl) (Nat.le_of_ble_eq_true rfl) (by decide) (by decide) (c_weightOfR g121 f125 RH (by omega)) (fun _ _ e132 => ?_)
      cases e132
      refine x_aload_n dX12_breaks_134 5 rfl ?_
      refine x_iload dX12_breaks_135 3 rfl ?_
      refine x_iconst (v := 2) dX12_breaks_137 (by decide) ?_
      refine x_iaddN (a := (404 + 4 * d)) (b := 2) dX12_breaks_138 ?_
      refine x_callV (rf' := 0) (rl' := 0) [.int (nI ((404 + 4 * d) + 2))] [.int ((sR s t) (164 + 24 * k)), .ref 36] dX12_breaks_139 vX12_217 Y_X12_of g121 (by decide) rfl rfl (Nat.le_of_ble_eq_true rfl) (Nat.le_of_ble_eq_true rfl) (by decide) (by decide) (c_ofR (k := ((404 + 4 * d) + 2)) g121 f125 RH (by omega)) (fun _ _ e133 => ?_)
      cases e133
      refine x_aload_n dX12_breaks_142 5 rfl ?_
      refine x_iload_n dX12_breaks_143 6 rfl ?_
      refine x_callV (rf' := 1) (rl' := 21) [.int (nI k)] [.int ((sR s t) (((404 + 4 * d) + 2))), .int ((sR s t) (164 + 24 * k)), .ref 36] dX12_breaks_144 vX12_270 Y_X12_markOf g121 (by decide) rfl rfl (Nat.le_of_ble_eq_true rfl) (Nat.le_of_ble_eq_true rfl) (by decide) (by decide) (c_markOfR g121 f125 RH (by omega)) (fun _ _ e134 => ?_)
      cases e134
      refine x_callV (rf' := 1) (rl' := 29) [.int ((sR s t) (164 + 24 * k)), .int ((sR s t) (((404 + 4 * d) + 2))), .int ((sR s t) (164 + 24 * k + 4))] [] dX12_breaks_147 vX12_273 Y_X12_holds g121 (by decide) rfl rfl (Nat.le_of_ble_eq_true rfl) (Nat.le_of_ble_eq_true rfl) (by decide) (by decide) (c_holdsM g121 L123 WF hpd hw9) (fun _ _ q1 => ?_)
      cases q1
      by_cases hO : HO (sR s t) (164 + 24 * k) sd (nI kn) ((sR s t) (164 + 24 * k)) ((sR s t) (404 + 4 * d + 2)) ((sR s t) (164 + 24 * k + 4)) = true
      · rw [if_pos hO]
        refine x_istore (lv2 := [(7, .int 1), (6, .int (nI i)), (3, .int (nI d)), (4, .int (nI (404 + 4 * d))), (5, .int (nI sd)), (0, .ref 36), (1, .int (nI k))]) dX12_breaks_150 (by decide) rfl ?_
        refine x_aload_n dX12_breaks_152 5 rfl ?_
        refine x_get (v := .ref 43) dX12_breaks_153 fX12_33 g121 (by decide) rfl ?_
        refine x_iload dX12_breaks_156 4 rfl ?_
        refine x_aload_n dX12_breaks_158 5 rfl ?_
        refine x_get (v := .ref 43) dX12_breaks_159 fX12_33 g121 (by decide) rfl ?_
        refine x_iload dX12_breaks_162 4 rfl ?_
        refine x_ialdN (i := sd) dX12_breaks_164 f126 (by decide) (by omega) (by decide) ?_
        rw [hkp]
        refine x_aload_n dX12_breaks_165 5 rfl ?_
        refine x_aload_n dX12_breaks_166 5 rfl ?_
        refine x_get (v := .int (nI kf)) dX12_breaks_167 fX12_239 g121 (by decide) rfl ?_
        refine x_callV (rf' := 1) (rl' := 21) [.int (nI kf)] [.int (nI kn), .int (nI sd), .ref 43] dX12_breaks_170 vX12_276 Y_X12_keepsOf g121 (by decide) rfl rfl (Nat.le_of_ble_eq_true rfl) (Nat.le_of_ble_eq_true rfl) (by decide) (by decide) (c_keepsOfR g121 f125 RH (by omega)) (fun _ _ e135 => ?_)
        cases e135
        rw [show (sR s t) (4 + 20 * kf + 1) = nI kE from by (rw [← eke]; unfold keP; rw [hpd])]
        refine x_imul dX12_breaks_173 ?_
        refine x_bipush (v := 100) dX12_breaks_174 (by decide) ?_
        refine x_idiv dX12_breaks_176 (by decide) ?_
        rw [(wear_nat hkn hke).1]
        refine x_iastN (i := sd) dX12_breaks_177 f126 (by decide) (by omega) (by decide) (fun h136 a137 e138 l139 s140 => ?_)
        have f141 := (e138 36 (by decide)).trans g121
        have f142 := (e138 38 (by decide)).trans f125
        have f143 := (e138 41 (by decide)).trans g130
        have f144 := (e138 42 (by decide)).trans g131
        have sm145 := Sm.put sm127 e138 l139 s140 (by decide)
        refine x_iload dX12_breaks_178 0 rfl ?_
        refine x_if_eq (tgt := 186) dX12_breaks_180 (by decide) (fun c_180 => absurd c_180 (by decide)) (fun c_180 => ?_)
        refine x_goto (tgt := 194) dX12_breaks_183 (by decide) ?_
        refine x_iincN (lv2 := [(6, .int (nI (i + 1))), (7, .int 1), (3, .int (nI d)), (4, .int (nI (404 + 4 * d))), (5, .int (nI sd)), (0, .ref 36), (1, .int (nI k))]) dX12_breaks_194 1 rfl (by decide) rfl ?_
        refine x_goto (tgt := 86) dX12_breaks_197 (by decide) ?_
        refine x_perm [0, 2, 3, 4, 5, 6] rfl ?_
        refine ih (i + 1) (kn * kE / 100) _ h136 (by omega) (by omega) (wear_nat hkn hke).2 (pk_us) ⟨_, _, _, _, _, _, _, _, _, _, _, _, _, _, _, f141, f142, f143, f144, a137⟩ (fun x ex h2 kp2 hS2 sm2 => ?_) (fun x ex h2 kp2 ek hS2 sm2 => ?_)
        · exact KB x (by rw [tbF, if_pos hO]; exact ex) h2 kp2 hS2 (sm145.tr sm2)
        · exact KD x (by rw [tbF, if_pos hO]; exact ex) h2 kp2 (fun j hj => by rw [ek j hj]; by_cases e : j = sd <;> simp [e, upd]) hS2 (sm145.tr sm2)
      · rw [if_neg hO]
        refine x_istore (lv2 := [(7, .int 0), (6, .int (nI i)), (3, .int (nI d)), (4, .int (nI (404 + 4 * d))), (5, .int (nI sd)), (0, .ref 36), (1, .int (nI k))]) dX12_breaks_150 (by decide) rfl ?_
        refine x_aload_n dX12_breaks_152 5 rfl ?_
        refine x_get (v := .ref 43) dX12_breaks_153 fX12_33 g121 (by decide) rfl ?_
        refine x_iload dX12_breaks_156 4 rfl ?_
        refine x_aload_n dX12_breaks_158 5 rfl ?_
        refine x_get (v := .ref 43) dX12_breaks_159 fX12_33 g121 (by decide) rfl ?_
        refine x_iload dX12_breaks_162 4 rfl ?_
        refine x_ialdN (i := sd) dX12_breaks_164 f126 (by decide) (by omega) (by decide) ?_
        rw [hkp]
        refine x_aload_n dX12_breaks_165 5 rfl ?_
        refine x_aload_n dX12_breaks_166 5 rfl ?_
        refine x_get (v := .int (nI kf)) dX12_breaks_167 fX12_239 g121 (by decide) rfl ?_
        refine x_callV (rf' := 1) (rl' := 21) [.int (nI kf)] [.int (nI kn), .int (nI sd), .ref 43] dX12_breaks_170 vX12_276 Y_X12_keepsOf g121 (by decide) rfl rfl (Nat.le_of_ble_eq_true rfl) (Nat.le_of_ble_eq_true rfl) (by decide) (by decide) (c_keepsOfR g121 f125 RH (by omega)) (fun _ _ e146 => ?_)
        cases e146
        rw [show (sR s t) (4 + 20 * kf + 1) = nI kE from by (rw [← eke]; unfold keP; rw [hpd])]
        refine x_imul dX12_breaks_173 ?_
        refine x_bipush (v := 100) dX12_breaks_174 (by decide) ?_
        refine x_idiv dX12_breaks_176 (by decide) ?_
        rw [(wear_nat hkn hke).1]
        refine x_iastN (i := sd) dX12_breaks_177 f126 (by decide) (by omega) (by decide) (fun h147 a148 e149 l150 s151 => ?_)
        have f152 := (e149 36 (by decide)).trans g121
        have f153 := (e149 38 (by decide)).trans f125
        have f154 := (e149 41 (by decide)).trans g130
        have f155 := (e149 42 (by decide)).trans g131
        have sm156 := Sm.put sm127 e149 l150 s151 (by decide)
        refine x_iload dX12_breaks_178 0 rfl ?_
        refine x_if_eq (tgt := 186) dX12_breaks_180 (by decide) (fun c_180 => ?_) (fun c_180 => absurd (by decide) c_180)
        refine x_aload_n dX12_breaks_186 5 rfl ?_
        refine x_iload dX12_breaks_187 1 rfl ?_
        refine x_put (fs2 := (MO 0 ((nI (s_tn s))) ((nI (s_td s))) ((nI (s_n s))) siz too frm knd num sgn ((s_fl s)) plc wrd tld ((nI (484 * b))) ((nI (PR (sR s t) (4 + 20 * kf) (npR (sR s t) (4 + 20 * kf) - 1)))) ((nI kf)) (((sR s t) (164 + 24 * k + 5 + 3 * sd + 1))) (((sR s t) (164 + 24 * k + 5 + 3 * sd + 2))) ((nI i)) ipd ((s_bs s)))) dX12_breaks_189 fX12_29 (Or.inl rfl) f152 (by decide) rfl rfl (Nat.le_of_ble_eq_true rfl) rfl (fun h157 a158 e159 l160 s161 => ?_)
        have f162 := (e159 38 (by decide)).trans f153
        have f163 := (e159 43 (by decide)).trans a148
        have f164 := (e159 41 (by decide)).trans f154
        have f165 := (e159 42 (by decide)).trans f155
        have sm166 := Sm.put sm156 e159 l160 s161 (by decide)
        refine x_iload_n dX12_breaks_192 2 rfl ?_
        exact x_iret dX12_breaks_193 rfl (KB i (by rw [tbF, if_neg hO]) _ _ ⟨_, _, _, _, _, _, _, _, _, _, _, _, _, _, _, a158, f162, f164, f165, f163⟩ sm166)

set_option maxRecDepth 100000 in
set_option maxHeartbeats 4000000 in
theorem lm_brOut {G : GT} {s : ST} {t brk ipd : Int32} {k b : Nat} {bk : Nat → Int32} (W : WFk (sR s t) (sC s t)) (hk : k < (sC s t).2.1) (RH : 484 * b + 484 ≤ 10164 ∧ ∀ j, j < 484 → bk (484 * b + j) = sR s t j) (hw9 : ¬ ((sR s t) (164 + 24 * k)).toInt64 = 0) : ∀ (m d : Nat) (kpN : Nat → Nat) (kp : Nat → Int32) (h : List PE), (sC s t).2.2.2 - d = m → d ≤ (sC s t).2.2.2 → (∀ j, j < 6 → kp j = nI (kpN j) ∧ kpN j ≤ 200) → BrS h s b ipd brk bk kp → X (NF G) G mX12_breaks 3 65 42 [(3, .int (nI d)), (0, .ref 36), (1, .int (nI k))] [] h (fun o => Sm [36, 41, 42, 43] h o.2 ∧ ∃ kp2 : Nat → Int32, match brF (sR s t) k m d kpN with | none => o.1 = some (.int (-1)) ∧ BrS o.2 s b ipd brk bk kp2 | some x => o.1 = some (.int (nI x.1)) ∧ BrS o.2 s b ipd (nI x.2) bk kp2) := by
  have w4 := W.2.2.2.1
  have wd := W.2.2.2.2.2.2.2.1
  have e3 : (sR s t) 3 = nI (sC s t).2.2.2 := W.2.2.2.2.2.2.1
  intro m
  induction m with
  | zero =>
    intro d kpN kp h hm hd hkp hS
    obtain ⟨siz, too, frm, knd, num, sgn, plc, wrd, tld, lst, pfo, thk, are, cv, sv, f36, f38, f41, f42, f43⟩ := id hS
    refine x_iload_n dX12_breaks_42 0 rfl ?_
    refine x_aload_n dX12_breaks_43 1 rfl ?_
    refine x_iconst (v := 3) dX12_breaks_44 (by decide) ?_
    refine x_callV (rf' := 0) (rl' := 0) [.int 3] [.int (nI d)] dX12_breaks_45 vX12_217 Y_X12_of f36 (by decide) rfl rfl (Nat.le_of_ble_eq_true rfl) (Nat.le_of_ble_eq_true rfl) (by decide) (by decide) (c_ofR (k := 3) f36 f38 RH (by omega)) (fun _ _ e1 => ?_)
    cases e1
    rw [e3]
    refine x_icmp_geN (tgt := 206) (a := d) (b := ((sC s t).2.2.2)) (by omega) (by omega) dX12_breaks_48 (by decide) (fun c_48 => ?_) (fun c_48 => absurd (by omega) c_48)
    refine x_iconst (v := (-1)) dX12_breaks_206 (by decide) ?_
    exact x_iret dX12_breaks_207 rfl ⟨Sm.rf, kp, rfl, hS⟩
  | succ m ih =>
    intro d kpN kp h hm hd hkp hS
    obtain ⟨siz, too, frm, knd, num, sgn, plc, wrd, tld, lst, pfo, thk, are, cv, sv, f36, f38, f41, f42, f43⟩ := id hS
    obtain ⟨⟨u0, a0, b0⟩, ⟨sd, a1, hsd⟩, ⟨u2, a2, b2'⟩, tm, a3, b3', b3''⟩ := W.2.2.2.2.2.2.2.2.2.2.2 d (by omega)
    have csd : sdD (sR s t) d = sd := by show ((sR s t) (404 + 4 * d + 1)).toNatClampNeg = sd; rw [a1, nI_clamp (by omega)]
    have ctm : ((sR s t) (404 + 4 * d + 3)).toNatClampNeg = tm := by rw [a3, nI_clamp (by omega)]
    obtain ⟨kE, hke, eke⟩ := keP_nat W hk hsd
    obtain ⟨y1, y2⟩ := hkp sd hsd
    refine x_iload_n dX12_breaks_42 0 rfl ?_
    refine x_aload_n dX12_breaks_43 1 rfl ?_
    refine x_iconst (v := 3) dX12_breaks_44 (by decide) ?_
    refine x_callV (rf' := 0) (rl' := 0) [.int 3] [.int (nI d)] dX12_breaks_45 vX12_217 Y_X12_of f36 (by decide) rfl rfl (Nat.le_of_ble_eq_true rfl) (Nat.le_of_ble_eq_true rfl) (by decide) (by decide) (c_ofR (k := 3) f36 f38 RH (by omega)) (fun _ _ e1 => ?_)
    cases e1
    rw [e3]
    refine x_icmp_geN (tgt := 206) (a := d) (b := ((sC s t).2.2.2)) (by omega) (by omega) dX12_breaks_48 (by decide) (fun c_48 => absurd c_48 (by omega)) (fun c_48 => ?_)
    refine x_sipush (v := 404) dX12_breaks_51 (by decide) ?_
    refine x_iconst (v := 4) dX12_breaks_54 (by decide) ?_
    refine x_iload_n dX12_breaks_55 0 rfl ?_
    refine x_imulN (a := 4) (b := d) dX12_breaks_56 ?_
    refine x_iaddN (a := 404) (b := (4 * d)) dX12_breaks_57 ?_
    refine x_istore (lv2 := [(4, .int (nI (404 + (4 * d)))), (3, .int (nI d)), (0, .ref 36), (1, .int (nI k))]) dX12_breaks_58 (by decide) rfl ?_
    refine x_aload_n dX12_breaks_60 2 rfl ?_
    refine x_iload dX12_breaks_61 0 rfl ?_
    refine x_callV (rf' := 0) (rl' := 0) [.int (nI (404 + (4 * d)))] [] dX12_breaks_63 vX12_217 Y_X12_of f36 (by decide) rfl rfl (Nat.le_of_ble_eq_true rfl) (Nat.le_of_ble_eq_true rfl) (by decide) (by decide) (c_ofR (k := (404 + (4 * d))) f36 f38 RH (by omega)) (fun _ _ e2 => ?_)
    cases e2
    refine x_iload_n dX12_breaks_66 3 rfl ?_
    refine x_icmp_eq (tgt := 73) dX12_breaks_67 (by decide) (fun c_67 => ?_) (fun c_67 => ?_)
    · refine x_aload_n dX12_breaks_73 2 rfl ?_
      refine x_iload dX12_breaks_74 0 rfl ?_
      refine x_iconst (v := 1) dX12_breaks_76 (by decide) ?_
      refine x_iaddN (a := (404 + (4 * d))) (b := 1) dX12_breaks_77 ?_
      refine x_callV (rf' := 0) (rl' := 0) [.int (nI ((404 + (4 * d)) + 1))] [] dX12_breaks_78 vX12_217 Y_X12_of f36 (by decide) rfl rfl (Nat.le_of_ble_eq_true rfl) (Nat.le_of_ble_eq_true rfl) (by decide) (by decide) (c_ofR (k := ((404 + (4 * d)) + 1)) f36 f38 RH (by omega)) (fun _ _ e3 => ?_)
      cases e3
      rw [a1]
      refine x_istore (lv2 := [(5, .int (nI sd)), (4, .int (nI (404 + (4 * d)))), (3, .int (nI d)), (0, .ref 36), (1, .int (nI k))]) dX12_breaks_81 (by decide) rfl ?_
      refine x_iconst (v := 1) dX12_breaks_83 (by decide) ?_
      refine x_istore (lv2 := [(6, .int 1), (5, .int (nI sd)), (4, .int (nI (404 + (4 * d)))), (3, .int (nI d)), (0, .ref 36), (1, .int (nI k))]) dX12_breaks_84 (by decide) rfl ?_
      refine x_perm [0, 3, 2, 1, 4, 5] rfl ?_
      have eT : tbD (sR s t) k d (kpN (sdD (sR s t) d)) = tbF (fun kept => HO (sR s t) (164 + 24 * k) sd (nI kept) ((sR s t) (164 + 24 * k)) ((sR s t) (404 + 4 * d + 2)) ((sR s t) (164 + 24 * k + 4))) kE tm 1 (kpN sd) := by unfold tbD; rw [csd, ctm, eke, nI_clamp (show kE < 2 ^ 31 by omega)]
      refine lm_brIn W hk hsd (by omega) RH hw9 a1 a3 b3'' hke eke tm 1 (kpN sd) kp h (by omega) (by omega) y2 y1 hS (fun x ex h2 kp2 hS2 sm2 => ?_) (fun x ex h2 kp2 ek hS2 sm2 => ?_)
      · refine ⟨sm2, kp2, ?_⟩
        rw [brF, if_pos c_67, eT, ex]
        exact ⟨rfl, hS2⟩
      · obtain ⟨siz2, too2, frm2, knd2, num2, sgn2, plc2, wrd2, tld2, lst2, pfo2, thk2, are2, cv2, sv2, g36, g38, g41, g42, g43⟩ := id hS2
        refine x_iincN (lv2 := [(3, .int (nI (d + 1))), (0, .ref 36), (1, .int (nI k))]) dX12_breaks_200 0 rfl (by decide) rfl ?_
        refine x_goto (tgt := 42) dX12_breaks_203 (by decide) ?_
        refine x_perm [0, 1, 2] rfl ?_
        have hx := tbF_le hke tm 1 (kpN sd) y2 x ex
        refine (ih (d + 1) (updN kpN sd x) kp2 h2 (by omega) (by omega) (fun j hj => ?_) hS2).weaken (fun o ho => ?_)
        · rw [ek j hj, updN]
          by_cases ej : j = sd
          · rw [if_pos ej, if_pos ej]; exact ⟨rfl, hx⟩
          · rw [if_neg ej, if_neg ej]; exact hkp j hj
        · obtain ⟨o1, kp3, o2⟩ := ho
          refine ⟨sm2.tr o1, kp3, ?_⟩
          rw [brF, if_pos c_67, eT, ex, csd]
          exact o2
    · refine x_goto (tgt := 200) dX12_breaks_70 (by decide) ?_
      refine x_iincN (lv2 := [(3, .int (nI (d + 1))), (4, .int (nI (404 + (4 * d)))), (0, .ref 36), (1, .int (nI k))]) dX12_breaks_200 1 rfl (by decide) rfl ?_
      refine x_goto (tgt := 42) dX12_breaks_203 (by decide) ?_
      refine x_perm [0, 2, 3] rfl ?_
      refine (ih (d + 1) kpN kp h (by omega) (by omega) hkp hS).weaken (fun o ho => ?_)
      rw [brF, if_neg c_67]
      exact ho

set_option maxRecDepth 100000 in
set_option maxHeartbeats 4000000 in
theorem lm_br0 {G : GT} {h0 : List PE} {s : ST} {brk ipd : Int32} {k b : Nat} {bk : Nat → Int32} {Q : OT → Prop} (K : ∀ (h : List PE) (kp : Nat → Int32), Sm [36, 41, 42, 43] h0 h → (∀ j, j < 6 → kp j = 100) → BrS h s b ipd brk bk kp → X (NF G) G mX12_breaks 3 65 40 [(0, .ref 36), (1, .int (nI k))] [] h Q) : ∀ (m i : Nat) (kp : Nat → Int32) (h : List PE), 6 - i = m → i ≤ 6 → Sm [36, 41, 42, 43] h0 h → (∀ j, j < i → kp j = 100) → BrS h s b ipd brk bk kp → X (NF G) G mX12_breaks 3 65 20 [(3, .int (nI i)), (0, .ref 36), (1, .int (nI k))] [] h Q := by
  intro m
  induction m with
  | zero =>
    intro i kp h hm hi sm hkp hS
    refine x_iload_n dX12_breaks_20 0 rfl ?_
    refine x_bipush (v := 6) dX12_breaks_21 (by decide) ?_
    refine x_icmp_geN (tgt := 40) (a := i) (b := 6) (by omega) (by omega) dX12_breaks_23 (by decide) (fun c_23 => ?_) (fun c_23 => absurd (by omega) c_23)
    refine x_perm [1, 2] rfl ?_
    exact K h kp sm (fun j hj => hkp j (by omega)) hS
  | succ m ih =>
    intro i kp h hm hi sm hkp hS
    obtain ⟨siz, too, frm, knd, num, sgn, plc, wrd, tld, lst, pfo, thk, are, cv, sv, f36, f38, f41, f42, f43⟩ := id hS
    refine x_iload_n dX12_breaks_20 0 rfl ?_
    refine x_bipush (v := 6) dX12_breaks_21 (by decide) ?_
    refine x_icmp_geN (tgt := 40) (a := i) (b := 6) (by omega) (by omega) dX12_breaks_23 (by decide) (fun c_23 => absurd c_23 (by omega)) (fun c_23 => ?_)
    refine x_aload_n dX12_breaks_26 1 rfl ?_
    refine x_get (v := .ref 43) dX12_breaks_27 fX12_33 f36 (by decide) rfl ?_
    refine x_iload_n dX12_breaks_30 0 rfl ?_
    refine x_bipush (v := 100) dX12_breaks_31 (by decide) ?_
    refine x_iastN (i := i) dX12_breaks_33 f43 (by decide) (by omega) (by decide) (fun h1 a2 e3 l4 s5 => ?_)
    have f6 := (e3 36 (by decide)).trans f36
    have f7 := (e3 38 (by decide)).trans f38
    have f8 := (e3 41 (by decide)).trans f41
    have f9 := (e3 42 (by decide)).trans f42
    have sm10 := Sm.put sm e3 l4 s5 (by decide)
    refine x_iincN (lv2 := [(3, .int (nI (i + 1))), (0, .ref 36), (1, .int (nI k))]) dX12_breaks_34 0 rfl (by decide) rfl ?_
    refine x_goto (tgt := 20) dX12_breaks_37 (by decide) ?_
    refine x_perm [0, 1, 2] rfl ?_
    refine ih (i + 1) _ h1 (by omega) (by omega) sm10 (fun j hj => ?_) ⟨_, _, _, _, _, _, _, _, _, _, _, _, _, _, _, f6, f7, f8, f9, a2⟩
    by_cases ej : j = i
    · subst ej; rw [pk_us]
    · rw [pk_un ej]; exact hkp j (by omega)

set_option maxRecDepth 100000 in
set_option maxHeartbeats 4000000 in
theorem m_breaksS {G : GT} {h : List PE} {s : ST} {t : Int32} {k : Nat} (hM : MoR h s) (hW : WS s) (hk : k < (sC s t).2.1) : CT G mX12_breaks 3 65 [.ref 36, .int (nI k), .int t] h (fun o => o.1 = some (.int (spBkA (sR s t) (sC s t) (nI k))) ∧ MoR o.2 (s_setBr s (spBkT (sR s t) (sC s t) (nI k) (s_br s))) ∧ Sm [36, 41, 42, 43] h o.2) := by
  obtain ⟨thr, siz, too, frm, knd, num, sgn, plc, wrd, tld, now, lst, pfo, thk, are, ipd, mt, bk, dy, nm, cv, sv, k1, k2, k3, k4, k5, k6, k7, f36, f37, f38, f39, f40, f41, f42, f43, f44, f45, f46, f47, f48, f49, r1, r2, r3⟩ := hM
  have W := hW.cur t
  have hm : MB (s_n s) dy bk (s_dy s) (s_rc s) := ⟨hW.1, r2⟩
  have w4 := W.2.2.2.1
  obtain ⟨b, hlb⟩ := curC_some (n := s_n s) (sdy := s_dy s) (ct := s_ct s) (t := t) hk
  have RH : 484 * b + 484 ≤ 10164 ∧ ∀ j, j < 484 → bk (484 * b + j) = sR s t j := hm.rh hlb
  obtain ⟨⟨wn, hw, hw1, hw2⟩, -⟩ := W.2.2.2.2.2.2.2.2.2.1 k hk
  have hw9 := nI_one hw1 (show wn < 2 ^ 31 by omega)
  rw [← hw] at hw9
  have nb1 : ¬ bT (sC s t) (nI k) := fun q => q.elim (nI_pos (by omega)) (fun q => absurd ((nI_leI (by omega) (by omega)).mp q) (by omega))
  have nb := nb1
  have sm0 : Sm [36, 41, 42, 43] h h := Sm.rf
  show X (NF G) G mX12_breaks 3 65 0 [(0, .ref 36), (1, .int (nI k)), (2, .int t)] [] h _
  refine x_aload_n dX12_breaks_0 0 rfl ?_
  refine x_iconst (v := 0) dX12_breaks_1 (by decide) ?_
  refine x_put (fs2 := (MO 0 ((nI (s_tn s))) ((nI (s_td s))) ((nI (s_n s))) siz too frm knd num sgn ((s_fl s)) plc wrd tld now lst pfo thk are ((s_br s)) ipd ((s_bs s)))) dX12_breaks_2 fX12_55 (Or.inl rfl) f36 (by decide) rfl rfl (Nat.le_of_ble_eq_true rfl) rfl (fun h101 a102 e103 l104 s105 => ?_)
  have f106 := (e103 38 (by decide)).trans f38
  have f107 := (e103 39 (by decide)).trans f39
  have f108 := (e103 41 (by decide)).trans f41
  have f109 := (e103 42 (by decide)).trans f42
  have f110 := (e103 43 (by decide)).trans f43
  have sm111 := Sm.put sm0 e103 l104 s105 (by decide)
  refine x_aload_n dX12_breaks_5 0 rfl ?_
  refine x_iconst (v := 1) dX12_breaks_6 (by decide) ?_
  refine x_iload_n dX12_breaks_7 1 rfl ?_
  refine x_iload_n dX12_breaks_8 2 rfl ?_
  refine x_callV (rf' := 2) (rl' := 42) [.int 1, .int (nI k), .int t] [] dX12_breaks_9 vX12_223 Y_X12_has a102 (by decide) rfl rfl (Nat.le_of_ble_eq_true rfl) (Nat.le_of_ble_eq_true rfl) (by decide) (by decide) (c_has (q := 1) a102 f106 f107 hm W (by decide)) (fun r h112 e1 => ?_)
  obtain ⟨e0, g113, sm114⟩ := e1
  cases e0
  rw [show cQ (curC (s_n s) (s_dy s) (s_ct s) t) 1 = (sC s t).2.1 from rfl, if_neg nb]
  rw [hlb] at g113
  have g113 : h112[36]? = some (cO 12 (MO 0 ((nI (s_tn s))) ((nI (s_td s))) ((nI (s_n s))) siz too frm knd num sgn ((s_fl s)) plc wrd tld ((nI (484 * b))) lst pfo thk are ((s_br s)) ipd ((s_bs s)))) := g113
  have f115 := sm114.at f106 (by decide)
  have f116 := sm114.at f107 (by decide)
  have f117 := sm114.at f108 (by decide)
  have f118 := sm114.at f109 (by decide)
  have f119 := sm114.at f110 (by decide)
  have sm120 := sm111.tr (sm114.wide (by decide))
  refine x_if_ne (tgt := 18) dX12_breaks_12 (by decide) (fun c_12 => ?_) (fun c_12 => absurd c_12 (by decide))
  refine x_iconst (v := 0) dX12_breaks_18 (by decide) ?_
  refine x_istore_n (lv2 := [(3, .int 0), (0, .ref 36), (1, .int (nI k)), (2, .int t)]) dX12_breaks_19 (by decide) rfl ?_
  refine x_perm [0, 1, 2] rfl ?_
  refine lm_br0 (s := s) (b := b) (brk := s_br s) (ipd := ipd) (bk := bk) (fun h1 kp1 sm1 e1 hS1 => ?_) 6 0 _ h112 rfl (by omega) Sm.rf (fun j hj => absurd hj (Nat.not_lt_zero j)) ⟨_, _, _, _, _, _, _, _, _, _, _, _, _, _, _, g113, f115, f117, f118, f119⟩
  have sm9 := sm120.tr sm1
  refine x_iconst (v := 0) dX12_breaks_40 (by decide) ?_
  refine x_istore_n (lv2 := [(3, .int 0), (0, .ref 36), (1, .int (nI k))]) dX12_breaks_41 (by decide) rfl ?_
  refine x_perm [0, 1, 2] rfl ?_
  refine (lm_brOut W hk RH hw9.2 (sC s t).2.2.2 0 (fun _ => 100) kp1 h1 rfl (by omega) (fun j hj => ⟨e1 j hj, by omega⟩) hS1).weaken (fun o ho => ?_)
  obtain ⟨o1, kp2, o4⟩ := ho
  have sm8 := sm9.tr o1
  have eb : spBk (sR s t) (sC s t) (nI k) = brF (sR s t) k (sC s t).2.2.2 0 (fun _ => 100) := by unfold spBk; rw [if_neg nb1, nI_clamp (by omega)]
  unfold spBkA spBkT
  rw [if_neg nb1, eb]
  cases e9 : brF (sR s t) k (sC s t).2.2.2 0 (fun _ => 100) with
  | none =>
    rw [e9] at o4
    obtain ⟨o5, siz2, too2, frm2, knd2, num2, sgn2, plc2, wrd2, tld2, lst2, pfo2, thk2, are2, cv2, sv2, g36, g38, g41, g42, g43⟩ := o4
    exact ⟨o5, (moR (s := s_setBr s _) g36 (sm8.at f37 (by decide)) (sm8.at f38 (by decide)) (sm8.at f39 (by decide)) (sm8.at f40 (by decide)) g41 g42 g43 (sm8.at f44 (by decide)) (sm8.at f45 (by decide)) (sm8.at f46 (by decide)) (sm8.at f47 (by decide)) (sm8.at f48 (by decide)) (sm8.at f49 (by decide)) r1 r2 r3), sm8⟩
  | some x =>
    rw [e9] at o4
    obtain ⟨o5, siz2, too2, frm2, knd2, num2, sgn2, plc2, wrd2, tld2, lst2, pfo2, thk2, are2, cv2, sv2, g36, g38, g41, g42, g43⟩ := o4
    exact ⟨o5, (moR (s := s_setBr s _) g36 (sm8.at f37 (by decide)) (sm8.at f38 (by decide)) (sm8.at f39 (by decide)) (sm8.at f40 (by decide)) g41 g42 g43 (sm8.at f44 (by decide)) (sm8.at f45 (by decide)) (sm8.at f46 (by decide)) (sm8.at f47 (by decide)) (sm8.at f48 (by decide)) (sm8.at f49 (by decide)) r1 r2 r3), sm8⟩

theorem m_breaks {G : GT} {h : List PE} {s : ST} {t : Int32} {th : Int32} (hM : MoR h s) (hW : WS s) : CT G mX12_breaks 3 65 [.ref 36, .int th, .int t] h (fun o => o.1 = some (.int (spBkA (sR s t) (sC s t) th)) ∧ MoR o.2 (s_setBr s (spBkT (sR s t) (sC s t) th (s_br s))) ∧ Sm [36, 41, 42, 43] h o.2) := by
  by_cases h1 : bT (sC s t) th
  · exact m_breaksN hM hW h1
  · obtain ⟨k, hk, rfl⟩ := ix_of (by have := (hW.cur t).2.2.2.1; omega) h1
    exact m_breaksS hM hW hk

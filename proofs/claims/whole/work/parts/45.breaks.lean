/-! ===== breaks ===== -/
def updN (f : Nat → Nat) (i v : Nat) : Nat → Nat := fun j => if j = i then v else f j
/-- m times are left, the next one is the nth: the one that does not HOLD, or what is kept behind them -/
def tbF (ho : Nat → Bool) (ke : Nat) : Nat → Nat → Nat → Nat ⊕ Nat
  | 0, _, kept => .inr kept
  | m + 1, n, kept => if ho kept then tbF ho ke m (n + 1) (kept * ke / 100) else .inl n
theorem tbF_le {ho : Nat → Bool} {ke : Nat} (hke : ke ≤ 100) : ∀ (m n kept : Nat), kept ≤ 200 → ∀ k2, tbF ho ke m n kept = .inr k2 → k2 ≤ 200
  | 0, n, kept, h, k2, e => by cases e; exact h
  | m + 1, n, kept, h, k2, e => by
    unfold tbF at e
    split at e
    · exact tbF_le hke m (n + 1) _ (wear_nat h hke).2 k2 e
    · cases e
abbrev sdD (rec : Nat → Int32) (d : Nat) : Nat := (rec (404 + 4 * d + 1)).toNatClampNeg
noncomputable abbrev tbD (rec : Nat → Int32) (k d : Nat) (kept : Nat) : Nat ⊕ Nat := tbF (fun kept => HO rec (164 + 24 * k) (sdD rec d) (nI kept) (rec (164 + 24 * k)) (rec (404 + 4 * d + 2)) (rec (164 + 24 * k + 4))) (keP rec (164 + 24 * k) (sdD rec d)).toNatClampNeg (rec (404 + 4 * d + 3)).toNatClampNeg 1 kept
/-- the LINE and the time that break it, of the m LINES from d on -/
noncomputable def brF (rec : Nat → Int32) (k : Nat) : Nat → Nat → (Nat → Nat) → Option (Nat × Nat)
  | 0, _, _ => none
  | m + 1, d, kp => if rec (404 + 4 * d) = nI k then (match tbD rec k d (kp (sdD rec d)) with
    | .inl n => some (d, n)
    | .inr kept => brF rec k m (d + 1) (updN kp (sdD rec d) kept)) else brF rec k m (d + 1) kp
noncomputable def spBk (rec : Nat → Int32) (c : Nat × Nat × Nat × Nat) (th : Int32) : Option (Nat × Nat) := if bT c th then none else brF rec th.toNatClampNeg c.2.2.2 0 (fun _ => 100)
noncomputable def spBkA (rec : Nat → Int32) (c : Nat × Nat × Nat × Nat) (th : Int32) : Int32 := if bT c th then -2 else match spBk rec c th with
  | none => -1
  | some x => nI x.1
noncomputable def spBkT (rec : Nat → Int32) (c : Nat × Nat × Nat × Nat) (th br : Int32) : Int32 := match spBk rec c th with
  | none => br
  | some x => nI x.2
theorem nI_ne_m1 {n : Nat} (h : n < 2 ^ 31) : ¬ nI n = -1 := by
  intro q
  have := congrArg Int32.toInt q
  rw [nI_toInt h] at this
  have h1 : (-1 : Int32).toInt = -1 := rfl
  omega

set_option maxRecDepth 100000 in
set_option maxHeartbeats 4000000 in
theorem l_timeT {G : GT} {rec : Nat → Int32} {c : Nat × Nat × Nat × Nat} {n td : Nat} {fk br : Int32} {k sd tm d ta dq : Nat} {fq : Nat → Nat} {kp : Nat → Int32} (W : WFk rec c) (hk : k < c.2.1) (hsd : sd < 6) (e1 : rec (404 + 4 * d + 1) = nI sd) (e3 : rec (404 + 4 * d + 3) = nI tm) (htm : tm ≤ 20) (hdq : 51 ≤ dq) : ∀ (m i kn : Nat) (h : List PE), tm + 1 - i = m → i ≤ tm + 1 → kn ≤ 200 → Laid h rec (164 + 24 * k) sd (nI kn) → ThingAt h rec (164 + 24 * k) fq ta → h[3]? = some (cO 11 [.ref 4, .ref 6, .ref 15, .ref 16, .ref 21, .ref 25, .ref 32, .ref 35, .int (nI n), .int (nI td), .int fk, .int br]) → h[dq]? = some (cO 5 [.int (rec (404 + 4 * d)), .int (nI sd), .int (rec (404 + 4 * d + 2)), .int (nI tm)]) → h[35]? = some (cI 6 kp) → X (NF G) G mX11_timeThatBreaks 4 90 42 [(3, .int (nI i)), (0, .ref 3), (1, .ref ta), (2, .ref dq)] [] h (fun o => CuR o.2 ∧ Sm [21, 22, 23, 24, 35] h o.2 ∧ match (tbF (fun kept => HO rec (164 + 24 * k) sd (nI kept) (rec (164 + 24 * k)) (rec (404 + 4 * d + 2)) (rec (164 + 24 * k + 4))) (keP rec (164 + 24 * k) sd).toNatClampNeg m i kn) with | .inl x => x < 1000 ∧ o.1 = some (.int (nI x)) ∧ o.2[35]? = some (cI 6 kp) | .inr x => x ≤ 200 ∧ o.1 = some (.int (-1)) ∧ o.2[35]? = some (cI 6 ((upd kp sd (nI x))))) := by
  have hp := pcN_le (sd := sd) W (W.2.2.2.2.2.2.2.2.2.1 k hk) hsd
  obtain ⟨ke, hke, eke⟩ := keP_nat W hk hsd
  have eke2 : (keP rec (164 + 24 * k) sd).toNatClampNeg = ke := by rw [eke, nI_clamp (by omega)]
  rw [eke2]
  intro m
  induction m with
  | zero =>
    intro i kn h hm hi hkn L0 hT f3 fd f35
    obtain ⟨frg, pug, svg, g21, -⟩ := id L0
    have hta := hT.1
    have sm0 : Sm [35] h h := Sm.rf
    refine x_iload_n dX11_timeThatBreaks_42 0 rfl ?_
    refine x_aload_n dX11_timeThatBreaks_43 3 rfl ?_
    refine x_get (v := .int (nI tm)) dX11_timeThatBreaks_44 fX11_278 fd (by omega) rfl ?_
    refine x_icmp_gtN (tgt := 80) (a := i) (b := tm) (by omega) (by omega) dX11_timeThatBreaks_47 (by decide) (fun c_47 => ?_) (fun c_47 => absurd (by omega) c_47)
    refine x_aload_n dX11_timeThatBreaks_80 1 rfl ?_
    refine x_get (v := .ref 35) dX11_timeThatBreaks_81 fX11_55 f3 (by decide) rfl ?_
    refine x_aload_n dX11_timeThatBreaks_84 3 rfl ?_
    refine x_get (v := .int (nI sd)) dX11_timeThatBreaks_85 fX11_275 fd (by omega) rfl ?_
    refine x_aload_n dX11_timeThatBreaks_88 1 rfl ?_
    refine x_get (v := .ref 21) dX11_timeThatBreaks_89 fX11_37 f3 (by decide) rfl ?_
    refine x_get (v := .int (nI kn)) dX11_timeThatBreaks_92 fX11_284 g21 (by decide) rfl ?_
    refine x_iastN (i := sd) dX11_timeThatBreaks_95 f35 (by decide) (by omega) (by decide) (fun h1 a2 e3 l4 s5 => ?_)
    have f6 := (e3 3 (by decide)).trans f3
    have f7 := (e3 21 (by decide)).trans g21
    have f8 := (e3 dq (by omega)).trans fd
    have sm9 := Sm.put sm0 e3 l4 s5 (by decide)
    refine x_iconst (v := (-1)) dX11_timeThatBreaks_96 (by decide) ?_
    exact x_iret dX11_timeThatBreaks_97 rfl ⟨(L0.cu hp).kept (fun j hj => sm9.2.2 j (by revert j; decide)), sm9.wide (by decide), hkn, rfl, a2⟩
  | succ m ih =>
    intro i kn h hm hi hkn L0 hT f3 fd f35
    obtain ⟨frg, pug, svg, g21, -⟩ := id L0
    have hta := hT.1
    refine x_iload_n dX11_timeThatBreaks_42 0 rfl ?_
    refine x_aload_n dX11_timeThatBreaks_43 3 rfl ?_
    refine x_get (v := .int (nI tm)) dX11_timeThatBreaks_44 fX11_278 fd (by omega) rfl ?_
    refine x_icmp_gtN (tgt := 80) (a := i) (b := tm) (by omega) (by omega) dX11_timeThatBreaks_47 (by decide) (fun c_47 => absurd c_47 (by omega)) (fun c_47 => ?_)
    refine x_aload_n dX11_timeThatBreaks_50 1 rfl ?_
    refine x_get (v := .ref 21) dX11_timeThatBreaks_51 fX11_37 f3 (by decide) rfl ?_
    refine x_aload_n dX11_timeThatBreaks_54 2 rfl ?_
    refine x_aload_n dX11_timeThatBreaks_55 3 rfl ?_
    refine x_get (v := .int (rec (404 + 4 * d + 2))) dX11_timeThatBreaks_56 fX11_281 fd (by omega) rfl ?_
    refine x_callV (rf' := 3) (rl' := 67) [.ref ta, .int (rec (404 + 4 * d + 2))] [] dX11_timeThatBreaks_59 vX11_148 Y_X4_holds g21 (by decide) rfl rfl (Nat.le_of_ble_eq_true rfl) (Nat.le_of_ble_eq_true rfl) (by decide) (by decide) (c_holdsL L0 hT W hk hsd hkn) (fun _ _ q1 => ?_)
    cases q1
    by_cases hO : HO rec (164 + 24 * k) sd (nI kn) (rec (164 + 24 * k)) (rec (404 + 4 * d + 2)) (rec (164 + 24 * k + 4)) = true
    · rw [if_pos hO]
      refine x_if_ne (tgt := 67) dX11_timeThatBreaks_62 (by decide) (fun c_62 => ?_) (fun c_62 => absurd c_62 (by decide))
      refine x_aload_n dX11_timeThatBreaks_67 1 rfl ?_
      refine x_get (v := .ref 21) dX11_timeThatBreaks_68 fX11_37 f3 (by decide) rfl ?_
      refine x_callV (rf' := 1) (rl' := 22) [] [] dX11_timeThatBreaks_71 vX11_152 Y_X4_wearByBlow g21 (by decide) rfl rfl (Nat.le_of_ble_eq_true rfl) (Nat.le_of_ble_eq_true rfl) (by decide) (by decide) (c_wearByBlowL L0 hp) (fun r h1 q1 => ?_)
      obtain ⟨q0, L1, sm1⟩ := q1
      cases q0
      rw [eke, (wear_nat hkn hke).1] at L1
      have hT1 := hT.kept (fun j c hj hc => sm1.at hc (by simp; omega))
      have f31 := sm1.at f3 (by decide)
      have fd1 := sm1.at fd (by simp; omega)
      have f351 := sm1.at f35 (by decide)
      refine x_iincN (lv2 := [(3, .int (nI (i + 1))), (0, .ref 3), (1, .ref ta), (2, .ref dq)]) dX11_timeThatBreaks_74 0 rfl (by decide) rfl ?_
      refine x_goto (tgt := 42) dX11_timeThatBreaks_77 (by decide) ?_
      refine x_perm [0, 1, 2, 3] rfl ?_
      refine (ih (i + 1) (kn * ke / 100) h1 (by omega) (by omega) (wear_nat hkn hke).2 L1 hT1 f31 fd1 f351).weaken (fun o ho => ⟨ho.1, (sm1.wide (by decide)).tr ho.2.1, ?_⟩)
      rw [tbF, if_pos hO]
      exact ho.2.2
    · rw [if_neg hO]
      refine x_if_ne (tgt := 67) dX11_timeThatBreaks_62 (by decide) (fun c_62 => absurd (by decide) c_62) (fun c_62 => ?_)
      refine x_iload_n dX11_timeThatBreaks_65 0 rfl ?_
      exact x_iret dX11_timeThatBreaks_66 rfl ⟨L0.cu hp, Sm.rf, by rw [tbF, if_neg hO]; exact ⟨by omega, rfl, f35⟩⟩

set_option maxRecDepth 100000 in
set_option maxHeartbeats 4000000 in
theorem c_timeT {G : GT} {rec : Nat → Int32} {c : Nat × Nat × Nat × Nat} {n td : Nat} {fk br : Int32} {k sd tm d ta dq : Nat} {fq : Nat → Nat} (W : WFk rec c) (hk : k < c.2.1) (hsd : sd < 6) (e1 : rec (404 + 4 * d + 1) = nI sd) (e3 : rec (404 + 4 * d + 3) = nI tm) (htm : tm ≤ 20) {h : List PE} {kp : Nat → Int32} {kn ab : Nat} {day : Int32} (hfa : FaR h n td fk br) (hcu : CuR h) (hB : BookAt h rec c.1 c.2.1 c.2.2.1 c.2.2.2 ab day) (hF : ∀ j, j < c.1 → ∀ np, rec (4 + 20 * j) = nI np → np ≤ 8 → FoamAt h rec (4 + 20 * j) np (fq j)) (hT : ThingAt h rec (164 + 24 * k) fq ta) (hdq : 51 ≤ dq) (fd : h[dq]? = some (cO 5 [.int (rec (404 + 4 * d)), .int (nI sd), .int (rec (404 + 4 * d + 2)), .int (nI tm)])) (f35 : h[35]? = some (cI 6 kp)) (hkp : kp sd = nI kn) (hkn : kn ≤ 200)  : CT G mX11_timeThatBreaks 4 90 [.ref 3, .ref ta, .ref dq] h (fun o => CuR o.2 ∧ Sm [21, 22, 23, 24, 35] h o.2 ∧ match (tbF (fun kept => HO rec (164 + 24 * k) sd (nI kept) (rec (164 + 24 * k)) (rec (404 + 4 * d + 2)) (rec (164 + 24 * k + 4))) (keP rec (164 + 24 * k) sd).toNatClampNeg tm 1 kn) with | .inl x => x < 1000 ∧ o.1 = some (.int (nI x)) ∧ o.2[35]? = some (cI 6 kp) | .inr x => x ≤ 200 ∧ o.1 = some (.int (-1)) ∧ o.2[35]? = some (cI 6 ((upd kp sd (nI x))))) := by
  have f3 : h[3]? = some (cO 11 [.ref 4, .ref 6, .ref 15, .ref 16, .ref 21, .ref 25, .ref 32, .ref 35, .int (nI n), .int (nI td), .int fk, .int br]) := hfa
  have hp := pcN_le (sd := sd) W (W.2.2.2.2.2.2.2.2.2.1 k hk) hsd
  have hta := hT.1
  obtain ⟨thick, area, keeps, kept, cc, fr, pu, sv, g21, -⟩ := id hcu
  show X (NF G) G mX11_timeThatBreaks 4 90 0 [(0, .ref 3), (1, .ref ta), (2, .ref dq)] [] h _
  refine x_aload_n dX11_timeThatBreaks_0 2 rfl ?_
  refine x_get (v := .int (nI sd)) dX11_timeThatBreaks_1 fX11_275 fd (by omega) rfl ?_
  refine x_callS (rf' := 0) (rl' := 0) [.int (nI sd)] [] dX11_timeThatBreaks_4 vX11_213 Y_X11_isSide rfl rfl (Nat.le_of_ble_eq_true rfl) (Nat.le_of_ble_eq_true rfl) (by decide) (by decide) c_isSide (fun _ _ q1 => ?_)
  cases q1
  rw [if_neg (show ¬ (nI sd < 0 ∨ (6 : Int32) ≤ nI sd) from fun q => q.elim (nI_pos (by omega)) (fun q => absurd ((nI_leI (a := 6) (by decide) (by omega)).mp q) (by omega)))]
  refine x_if_ne (tgt := 12) dX11_timeThatBreaks_7 (by decide) (fun c_7 => ?_) (fun c_7 => absurd c_7 (by decide))
  refine x_aload_n dX11_timeThatBreaks_12 0 rfl ?_
  refine x_get (v := .ref 21) dX11_timeThatBreaks_13 fX11_37 f3 (by decide) rfl ?_
  refine x_aload_n dX11_timeThatBreaks_16 1 rfl ?_
  refine x_aload_n dX11_timeThatBreaks_17 2 rfl ?_
  refine x_get (v := .int (nI sd)) dX11_timeThatBreaks_18 fX11_275 fd (by omega) rfl ?_
  refine x_callV (rf' := 3) (rl' := 64) [.ref ta, .int (nI sd)] [] dX11_timeThatBreaks_21 vX11_252 Y_X4_layPad g21 (by decide) rfl rfl (Nat.le_of_ble_eq_true rfl) (Nat.le_of_ble_eq_true rfl) (by decide) (by decide) (c_layPadL hcu hB W hk hsd ta fq hF hT) (fun r h1 q1 => ?_)
  obtain ⟨q0, L1, sm1⟩ := q1
  cases q0
  have hT1 := hT.kept (fun j c hj hc => sm1.at hc (by simp; omega))
  have f31 := sm1.at f3 (by decide)
  have fd1 := sm1.at fd (by simp; omega)
  have f351 := sm1.at f35 (by decide)
  obtain ⟨frg, pug, svg, g21, -⟩ := id L1
  refine x_aload_n dX11_timeThatBreaks_24 0 rfl ?_
  refine x_get (v := .ref 21) dX11_timeThatBreaks_25 fX11_37 f31 (by decide) rfl ?_
  refine x_aload_n dX11_timeThatBreaks_28 0 rfl ?_
  refine x_get (v := .ref 35) dX11_timeThatBreaks_29 fX11_55 f31 (by decide) rfl ?_
  refine x_aload_n dX11_timeThatBreaks_32 2 rfl ?_
  refine x_get (v := .int (nI sd)) dX11_timeThatBreaks_33 fX11_275 fd1 (by omega) rfl ?_
  refine x_ialdN (i := sd) dX11_timeThatBreaks_36 f351 (by decide) (by omega) (by decide) ?_
  rw [hkp]
  refine x_callV (rf' := 0) (rl' := 0) [.int (nI kn)] [] dX11_timeThatBreaks_37 vX11_132 Y_X4_wearTo g21 (by decide) rfl rfl (Nat.le_of_ble_eq_true rfl) (Nat.le_of_ble_eq_true rfl) (by decide) (by decide) (c_wearToL L1 hp) (fun r h2 q1 => ?_)
  obtain ⟨q0, L2, sm2⟩ := q1
  cases q0
  have hT2 := hT1.kept (fun j c hj hc => sm2.at hc (by simp; omega))
  have f32 := sm2.at f31 (by decide)
  have fd2 := sm2.at fd1 (by simp; omega)
  have f352 := sm2.at f351 (by decide)
  refine x_iconst (v := 1) dX11_timeThatBreaks_40 (by decide) ?_
  refine x_istore_n (lv2 := [(3, .int 1), (0, .ref 3), (1, .ref ta), (2, .ref dq)]) dX11_timeThatBreaks_41 (by decide) rfl ?_
  refine x_perm [0, 1, 2, 3] rfl ?_
  refine (l_timeT W hk hsd e1 e3 htm hdq tm 1 kn h2 (by omega) (by omega) hkn L2 hT2 f32 fd2 f352).weaken (fun o ho => ⟨ho.1, ((sm1.tr sm2).wide (by decide)).tr ho.2.1, ho.2.2⟩)

set_option maxRecDepth 100000 in
set_option maxHeartbeats 4000000 in
theorem c_breaksN {G : GT} {h : List PE} {n td : Nat} {dy : Nat → Int32} {rc : Nat → Nat → Int32} {ct : Nat → Nat × Nat × Nat × Nat} {fk br t : Int32} {th : Int32} (hfa : FaR h n td fk br) (hbk : BkR h n dy rc ct) (hn : n ≤ 20) (hcu : CuR h) (hkp : KpR h) (W : WFk (curR n dy rc t) (curC n dy ct t)) (hs : bT (curC n dy ct t) th) : CT G mX11_breaks 5 113 [.ref 3, .int th, .int t] h (fun o => o.1 = some (.int (spBkA (curR n dy rc t) (curC n dy ct t) th)) ∧ FaR o.2 n td fk (spBkT (curR n dy rc t) (curC n dy ct t) th br) ∧ CuR o.2 ∧ KpR o.2 ∧ Sm [3, 21, 22, 23, 24, 35] h o.2) := by
  obtain ⟨zb, bq, ab, day, f15, hd, hab, hB⟩ := hbk.cur t
  obtain ⟨hb0, b1, b2, b3, b4, fq, tq, bq2, dq, zf, zt, zb2, zd, ln, q1, q2, q3, q4, q5, r0, r1, r2, r3, r4, k1, k2, k3, k4⟩ := id hB
  have f3 : h[3]? = some (cO 11 [.ref 4, .ref 6, .ref 15, .ref 16, .ref 21, .ref 25, .ref 32, .ref 35, .int (nI n), .int (nI td), .int fk, .int br]) := hfa
  show X (NF G) G mX11_breaks 5 113 0 [(0, .ref 3), (1, .int th), (2, .int t)] [] h _
  refine x_aload_n dX11_breaks_0 0 rfl ?_
  refine x_iload_n dX11_breaks_1 2 rfl ?_
  refine x_callV (rf' := 1) (rl' := 21) [.int t] [] dX11_breaks_2 vX11_95 Y_X11_asOf f3 (by decide) rfl rfl (Nat.le_of_ble_eq_true rfl) (Nat.le_of_ble_eq_true rfl) (by decide) (by decide) (c_asOf hfa f15 hn hd) (fun _ _ e1 => ?_)
  cases e1
  rw [hab]
  refine x_astore_n (lv2 := [(3, .ref ab), (0, .ref 3), (1, .int th), (2, .int t)]) dX11_breaks_5 (by decide) rfl ?_
  refine x_aload_n dX11_breaks_6 0 rfl ?_
  refine x_iload_n dX11_breaks_7 2 rfl ?_
  refine x_callV (rf' := 0) (rl' := 0) [.int th] [] dX11_breaks_8 vX11_155 Y_X0_thingAt r0 (by omega) rfl rfl (Nat.le_of_ble_eq_true rfl) (Nat.le_of_ble_eq_true rfl) (by decide) (by decide) (c_thingAtN r0 (by omega) hs) (fun _ _ e1 => ?_)
  cases e1
  refine x_astoreN (lv2 := [(4, .null), (3, .ref ab), (0, .ref 3), (1, .int th), (2, .int t)]) dX11_breaks_11 (by decide) rfl ?_
  refine x_aloadN dX11_breaks_13 0 rfl ?_
  refine x_ifnonnullN dX11_breaks_15 ?_
  refine x_bipush (v := (-2)) dX11_breaks_18 (by decide) ?_
  exact x_iret dX11_breaks_20 rfl ⟨by rw [spBkA, if_pos hs], by unfold spBkT spBk; rw [if_pos hs]; exact hfa, hcu, hkp, Sm.rf⟩

set_option maxRecDepth 100000 in
set_option maxHeartbeats 4000000 in
theorem l_breaks {G : GT} {h0 : List PE} {n td : Nat} {fk br : Int32} {rec : Nat → Int32} {c : Nat × Nat × Nat × Nat} {k ab ta b1 b2 b3 b4 : Nat} {fq dq : Nat → Nat} {zd : Nat → Option Nat} {ln day : Int32} (W : WFk rec c) (hk : k < c.2.1) (f3 : h0[3]? = some (cO 11 [.ref 4, .ref 6, .ref 15, .ref 16, .ref 21, .ref 25, .ref 32, .ref 35, .int (nI n), .int (nI td), .int fk, .int br])) (hB : BookAt h0 rec c.1 c.2.1 c.2.2.1 c.2.2.2 ab day) (r0 : h0[ab]? = some (cO 0 [.ref b1, .ref b2, .ref b3, .ref b4, .int (nI (c.1)), .int (nI (c.2.1)), .int (nI (c.2.2.1)), .int (nI (c.2.2.2)), .int ln, .int day])) (r4 : h0[b4]? = some (cR 7 20 zd)) (hab : ab = 16 ∨ 51 ≤ ab) (hb4 : b4 = 20 ∨ 51 ≤ b4) (hF : ∀ j, j < c.1 → ∀ np, rec (4 + 20 * j) = nI np → np ≤ 8 → FoamAt h0 rec (4 + 20 * j) np (fq j)) (hT : ThingAt h0 rec (164 + 24 * k) fq ta) (hD : ∀ d, d < c.2.2.2 → zd d = some (dq d) ∧ DropAt h0 rec (404 + 4 * d) (dq d)) : ∀ (m d : Nat) (kpN : Nat → Nat) (kp : Nat → Int32) (h : List PE), c.2.2.2 - d = m → d ≤ c.2.2.2 → Sm [21, 22, 23, 24, 35] h0 h → CuR h → (∀ j, j < 6 → kp j = nI (kpN j) ∧ kpN j ≤ 200) → h[35]? = some (cI 6 kp) → X (NF G) G mX11_breaks 5 113 49 [(5, .int (nI d)), (0, .ref 3), (1, .int (nI k)), (3, .ref ab), (4, .ref ta)] [] h (fun o => Sm [3, 21, 22, 23, 24, 35] h0 o.2 ∧ CuR o.2 ∧ KpR o.2 ∧ match brF rec k m d kpN with | none => o.1 = some (.int (-1)) ∧ FaR o.2 n td fk br | some x => o.1 = some (.int (nI x.1)) ∧ FaR o.2 n td fk (nI x.2)) := by
  have w4 := W.2.2.2.1
  have wd := W.2.2.2.2.2.2.2.1
  intro m
  induction m with
  | zero =>
    intro d kpN kp h hm hd sm hcu hkp f35
    have g3 := sm.at f3 (by decide)
    have ga := sm.at r0 (by simp; omega)
    refine x_iload dX11_breaks_49 0 rfl ?_
    refine x_aload_n dX11_breaks_51 3 rfl ?_
    refine x_get (v := .int (nI (c.2.2.2))) dX11_breaks_52 fX11_108 ga (by omega) rfl ?_
    refine x_icmp_geN (tgt := 115) (a := d) (b := (c.2.2.2)) (by omega) (by omega) dX11_breaks_55 (by decide) (fun c_55 => ?_) (fun c_55 => absurd (by omega) c_55)
    refine x_iconst (v := (-1)) dX11_breaks_115 (by decide) ?_
    exact x_iret dX11_breaks_116 rfl ⟨sm.wide (by decide), hcu, ⟨kp, f35⟩, rfl, g3⟩
  | succ m ih =>
    intro d kpN kp h hm hd sm hcu hkp f35
    have g3 := sm.at f3 (by decide)
    have ga := sm.at r0 (by simp; omega)
    have gb := sm.at r4 (by simp; omega)
    obtain ⟨hz, hdq, fd0⟩ := hD d (by omega)
    have gd := sm.at fd0 (by simp; omega)
    obtain ⟨⟨u0, a0, b0⟩, ⟨sd, a1, hsd⟩, ⟨u2, a2, b2'⟩, tm, a3, b3', b3''⟩ := W.2.2.2.2.2.2.2.2.2.2.2 d (by omega)
    have gB := hB.kept (sm.keep (by unfold Keep; decide))
    have gF : ∀ j, j < c.1 → ∀ np, rec (4 + 20 * j) = nI np → np ≤ 8 → FoamAt h rec (4 + 20 * j) np (fq j) := fun j hj np x1 x2 => (hF j hj np x1 x2).kept (fun i z hi hz => sm.at hz (by simp; omega))
    have gT := hT.kept (fun i z hi hz => sm.at hz (by simp; omega))
    have csd : sdD rec d = sd := by show (rec (404 + 4 * d + 1)).toNatClampNeg = sd; rw [a1, nI_clamp (by omega)]
    have ctm : (rec (404 + 4 * d + 3)).toNatClampNeg = tm := by rw [a3, nI_clamp (by omega)]
    rw [a1, a3] at gd
    refine x_iload dX11_breaks_49 0 rfl ?_
    refine x_aload_n dX11_breaks_51 3 rfl ?_
    refine x_get (v := .int (nI (c.2.2.2))) dX11_breaks_52 fX11_108 ga (by omega) rfl ?_
    refine x_icmp_geN (tgt := 115) (a := d) (b := (c.2.2.2)) (by omega) (by omega) dX11_breaks_55 (by decide) (fun c_55 => absurd c_55 (by omega)) (fun c_55 => ?_)
    refine x_aload_n dX11_breaks_58 3 rfl ?_
    refine x_iload dX11_breaks_59 0 rfl ?_
    refine x_callV (rf' := 0) (rl' := 0) [.int (nI d)] [] dX11_breaks_61 vX11_159 Y_X0_dropAt ga (by omega) rfl rfl (Nat.le_of_ble_eq_true rfl) (Nat.le_of_ble_eq_true rfl) (by decide) (by decide) (c_dropAtS ga gb (by omega) (by omega) wd (by omega) hz) (fun _ _ e1 => ?_)
    cases e1
    refine x_astore (lv2 := [(6, .ref (dq d)), (5, .int (nI d)), (0, .ref 3), (1, .int (nI k)), (3, .ref ab), (4, .ref ta)]) dX11_breaks_64 (by decide) rfl ?_
    refine x_aload dX11_breaks_66 0 rfl ?_
    refine x_ifnull dX11_breaks_68 ?_
    refine x_aload dX11_breaks_71 0 rfl ?_
    refine x_get (v := .int (rec (404 + 4 * d))) dX11_breaks_73 fX11_163 gd (by omega) rfl ?_
    refine x_iload_n dX11_breaks_76 3 rfl ?_
    refine x_icmp_eq (tgt := 84) dX11_breaks_77 (by decide) (fun c_77 => ?_) (fun c_77 => ?_)
    · refine x_aload_n dX11_breaks_84 2 rfl ?_
      refine x_aload dX11_breaks_85 5 rfl ?_
      refine x_aload dX11_breaks_87 0 rfl ?_
      obtain ⟨y1, y2⟩ := hkp sd hsd
      refine x_callV (rf' := 4) (rl' := 90) [.ref ta, .ref (dq d)] [] dX11_breaks_89 vX11_168 Y_X11_timeThatBreaks g3 (by decide) rfl rfl (Nat.le_of_ble_eq_true rfl) (Nat.le_of_ble_eq_true rfl) (by decide) (by decide) (c_timeT W hk hsd a1 a3 b3'' g3 hcu gB gF gT hdq gd f35 y1 y2) (fun r h1 e1 => ?_)
      obtain ⟨cu1, sm1, e2⟩ := e1
      have eT : tbD rec k d (kpN (sdD rec d)) = (tbF (fun kept => HO rec (164 + 24 * k) sd (nI kept) (rec (164 + 24 * k)) (rec (404 + 4 * d + 2)) (rec (164 + 24 * k + 4))) (keP rec (164 + 24 * k) sd).toNatClampNeg tm 1 (kpN sd)) := by unfold tbD; rw [csd, ctm]
      generalize (tbF (fun kept => HO rec (164 + 24 * k) sd (nI kept) (rec (164 + 24 * k)) (rec (404 + 4 * d + 2)) (rec (164 + 24 * k + 4))) (keP rec (164 + 24 * k) sd).toNatClampNeg tm 1 (kpN sd)) = tb at eT e2
      rcases tb with x | x
      · obtain ⟨e3, e4, e5⟩ := e2
        cases e4
        have h3 := sm1.at g3 (by decide)
        refine x_istore (lv2 := [(7, .int (nI x)), (6, .ref (dq d)), (5, .int (nI d)), (0, .ref 3), (1, .int (nI k)), (3, .ref ab), (4, .ref ta)]) dX11_breaks_92 (by decide) rfl ?_
        have sm9 : Sm [3] h1 h1 := Sm.rf
        refine x_iload dX11_breaks_94 0 rfl ?_
        refine x_iconst (v := (-1)) dX11_breaks_96 (by decide) ?_
        refine x_icmp_eq (tgt := 109) dX11_breaks_97 (by decide) (fun c_97 => absurd c_97 (nI_ne_m1 (show x < 2 ^ 31 by omega))) (fun c_97 => ?_)
        refine x_aload_n dX11_breaks_100 3 rfl ?_
        refine x_iload dX11_breaks_101 0 rfl ?_
        refine x_put (fs2 := [.ref 4, .ref 6, .ref 15, .ref 16, .ref 21, .ref 25, .ref 32, .ref 35, .int (nI n), .int (nI td), .int fk, .int (nI x)]) dX11_breaks_103 fX11_69 (Or.inl rfl) h3 (by decide) rfl rfl (Nat.le_of_ble_eq_true rfl) rfl (fun h1 a2 e3 l4 s5 => ?_)
        have sm6 := Sm.put sm9 e3 l4 s5 (by decide)
        refine x_iload dX11_breaks_106 2 rfl ?_
        exact x_iret dX11_breaks_108 rfl ⟨(sm.wide (by decide)).tr ((sm1.wide (by decide)).tr (sm6.wide (by decide))), cu1.kept (fun j hj => sm6.2.2 j (by revert j; decide)), ⟨kp, sm6.at e5 (by decide)⟩, by rw [brF, if_pos c_77, eT]; exact ⟨rfl, a2⟩⟩
      · obtain ⟨e3, e4, e5⟩ := e2
        cases e4
        have h3 := sm1.at g3 (by decide)
        refine x_istore (lv2 := [(7, .int (-1)), (6, .ref (dq d)), (5, .int (nI d)), (0, .ref 3), (1, .int (nI k)), (3, .ref ab), (4, .ref ta)]) dX11_breaks_92 (by decide) rfl ?_
        refine x_iload dX11_breaks_94 0 rfl ?_
        refine x_iconst (v := (-1)) dX11_breaks_96 (by decide) ?_
        refine x_icmp_eq (tgt := 109) dX11_breaks_97 (by decide) (fun c_97 => ?_) (fun c_97 => absurd (by decide) c_97)
        refine x_iincN (lv2 := [(5, .int (nI (d + 1))), (7, .int (-1)), (6, .ref (dq d)), (0, .ref 3), (1, .int (nI k)), (3, .ref ab), (4, .ref ta)]) dX11_breaks_109 2 rfl (by decide) rfl ?_
        refine x_goto (tgt := 49) dX11_breaks_112 (by decide) ?_
        refine x_perm [0, 3, 4, 5, 6] rfl ?_
        refine (ih (d + 1) (updN kpN sd x) (upd kp sd (nI x)) h1 (by omega) (by omega) (sm.tr sm1) cu1 (fun j hj => ?_) e5).weaken (fun o ho => ?_)
        · by_cases ej : j = sd
          · subst ej; rw [pk_us, updN, if_pos rfl]; exact ⟨rfl, e3⟩
          · rw [pk_un ej, updN, if_neg ej]; exact hkp j hj
        · rw [brF, if_pos c_77, eT, csd]
          exact ho
    · refine x_iconst (v := (-1)) dX11_breaks_80 (by decide) ?_
      refine x_goto (tgt := 92) dX11_breaks_81 (by decide) ?_
      refine x_istore (lv2 := [(7, .int (-1)), (6, .ref (dq d)), (5, .int (nI d)), (0, .ref 3), (1, .int (nI k)), (3, .ref ab), (4, .ref ta)]) dX11_breaks_92 (by decide) rfl ?_
      refine x_iload dX11_breaks_94 0 rfl ?_
      refine x_iconst (v := (-1)) dX11_breaks_96 (by decide) ?_
      refine x_icmp_eq (tgt := 109) dX11_breaks_97 (by decide) (fun c_97 => ?_) (fun c_97 => absurd (by decide) c_97)
      refine x_iincN (lv2 := [(5, .int (nI (d + 1))), (7, .int (-1)), (6, .ref (dq d)), (0, .ref 3), (1, .int (nI k)), (3, .ref ab), (4, .ref ta)]) dX11_breaks_109 2 rfl (by decide) rfl ?_
      refine x_goto (tgt := 49) dX11_breaks_112 (by decide) ?_
      refine x_perm [0, 3, 4, 5, 6] rfl ?_
      refine (ih (d + 1) kpN kp h (by omega) (by omega) sm hcu hkp f35).weaken (fun o ho => ?_)
      rw [brF, if_neg c_77]
      exact ho

set_option maxRecDepth 100000 in
set_option maxHeartbeats 4000000 in
theorem l_breaks0 {G : GT} {h0 : List PE} {n td : Nat} {fk br : Int32} {k ab ta : Nat} {Q : OT → Prop} (f3 : h0[3]? = some (cO 11 [.ref 4, .ref 6, .ref 15, .ref 16, .ref 21, .ref 25, .ref 32, .ref 35, .int (nI n), .int (nI td), .int fk, .int br])) (K : ∀ (h : List PE) (kp : Nat → Int32), Sm [35] h0 h → (∀ j, j < 6 → kp j = 100) → h[35]? = some (cI 6 kp) → X (NF G) G mX11_breaks 5 113 46 [(0, .ref 3), (1, .int (nI k)), (3, .ref ab), (4, .ref ta)] [] h Q) : ∀ (m i : Nat) (kp : Nat → Int32) (h : List PE), 6 - i = m → i ≤ 6 → Sm [35] h0 h → (∀ j, j < i → kp j = 100) → h[35]? = some (cI 6 kp) → X (NF G) G mX11_breaks 5 113 24 [(5, .int (nI i)), (0, .ref 3), (1, .int (nI k)), (3, .ref ab), (4, .ref ta)] [] h Q := by
  intro m
  induction m with
  | zero =>
    intro i kp h hm hi sm hkp f35
    refine x_iload dX11_breaks_24 0 rfl ?_
    refine x_bipush (v := 6) dX11_breaks_26 (by decide) ?_
    refine x_icmp_geN (tgt := 46) (a := i) (b := 6) (by omega) (by omega) dX11_breaks_28 (by decide) (fun c_28 => ?_) (fun c_28 => absurd (by omega) c_28)
    refine x_perm [1, 2, 3, 4] rfl ?_
    exact K h kp sm (fun j hj => hkp j (by omega)) f35
  | succ m ih =>
    intro i kp h hm hi sm hkp f35
    have g3 := sm.at f3 (by decide)
    refine x_iload dX11_breaks_24 0 rfl ?_
    refine x_bipush (v := 6) dX11_breaks_26 (by decide) ?_
    refine x_icmp_geN (tgt := 46) (a := i) (b := 6) (by omega) (by omega) dX11_breaks_28 (by decide) (fun c_28 => absurd c_28 (by omega)) (fun c_28 => ?_)
    refine x_aload_n dX11_breaks_31 1 rfl ?_
    refine x_get (v := .ref 35) dX11_breaks_32 fX11_55 g3 (by decide) rfl ?_
    refine x_iload dX11_breaks_35 0 rfl ?_
    refine x_bipush (v := 100) dX11_breaks_37 (by decide) ?_
    refine x_iastN (i := i) dX11_breaks_39 f35 (by decide) (by omega) (by decide) (fun h1 a2 e3 l4 s5 => ?_)
    have f6 := (e3 3 (by decide)).trans g3
    have sm7 := Sm.put sm e3 l4 s5 (by decide)
    refine x_iincN (lv2 := [(5, .int (nI (i + 1))), (0, .ref 3), (1, .int (nI k)), (3, .ref ab), (4, .ref ta)]) dX11_breaks_40 0 rfl (by decide) rfl ?_
    refine x_goto (tgt := 24) dX11_breaks_43 (by decide) ?_
    refine x_perm [0, 1, 2, 3, 4] rfl ?_
    refine ih (i + 1) _ h1 (by omega) (by omega) sm7 (fun j hj => ?_) a2
    by_cases ej : j = i
    · subst ej; rw [pk_us]
    · rw [pk_un ej]; exact hkp j (by omega)

set_option maxRecDepth 100000 in
set_option maxHeartbeats 4000000 in
theorem c_breaksS {G : GT} {h : List PE} {n td : Nat} {dy : Nat → Int32} {rc : Nat → Nat → Int32} {ct : Nat → Nat × Nat × Nat × Nat} {fk br t : Int32} {k : Nat} (hfa : FaR h n td fk br) (hbk : BkR h n dy rc ct) (hn : n ≤ 20) (hcu : CuR h) (hkp : KpR h) (W : WFk (curR n dy rc t) (curC n dy ct t)) (hk : k < (curC n dy ct t).2.1) : CT G mX11_breaks 5 113 [.ref 3, .int (nI k), .int t] h (fun o => o.1 = some (.int (spBkA (curR n dy rc t) (curC n dy ct t) (nI k))) ∧ FaR o.2 n td fk (spBkT (curR n dy rc t) (curC n dy ct t) (nI k) br) ∧ CuR o.2 ∧ KpR o.2 ∧ Sm [3, 21, 22, 23, 24, 35] h o.2) := by
  obtain ⟨zb, bq, ab, day, f15, hd, hab, hB⟩ := hbk.cur t
  obtain ⟨hb0, b1, b2, b3, b4, fq, tq, bq2, dq, zf, zt, zb2, zd, ln, q1, q2, q3, q4, q5, r0, r1, r2, r3, r4, k1, k2, k3, k4⟩ := id hB
  have f3 : h[3]? = some (cO 11 [.ref 4, .ref 6, .ref 15, .ref 16, .ref 21, .ref 25, .ref 32, .ref 35, .int (nI n), .int (nI td), .int fk, .int br]) := hfa
  have w4 := W.2.2.2.1
  have nb1 : ¬ bT (curC n dy ct t) (nI k) := fun q => q.elim (nI_pos (by omega)) (fun q => absurd ((nI_leI (by omega) (by omega)).mp q) (by omega))
  show X (NF G) G mX11_breaks 5 113 0 [(0, .ref 3), (1, .int (nI k)), (2, .int t)] [] h _
  refine x_aload_n dX11_breaks_0 0 rfl ?_
  refine x_iload_n dX11_breaks_1 2 rfl ?_
  refine x_callV (rf' := 1) (rl' := 21) [.int t] [] dX11_breaks_2 vX11_95 Y_X11_asOf f3 (by decide) rfl rfl (Nat.le_of_ble_eq_true rfl) (Nat.le_of_ble_eq_true rfl) (by decide) (by decide) (c_asOf hfa f15 hn hd) (fun _ _ e1 => ?_)
  cases e1
  rw [hab]
  refine x_astore_n (lv2 := [(3, .ref ab), (0, .ref 3), (1, .int (nI k)), (2, .int t)]) dX11_breaks_5 (by decide) rfl ?_
  refine x_aload_n dX11_breaks_6 0 rfl ?_
  refine x_iload_n dX11_breaks_7 2 rfl ?_
  refine x_callV (rf' := 0) (rl' := 0) [.int (nI k)] [] dX11_breaks_8 vX11_155 Y_X0_thingAt r0 (by omega) rfl rfl (Nat.le_of_ble_eq_true rfl) (Nat.le_of_ble_eq_true rfl) (by decide) (by decide) (c_thingAtS r0 r2 (by omega) (by omega) W.2.2.2.1 hk (k2 k hk).1) (fun _ _ e1 => ?_)
  cases e1
  refine x_astore (lv2 := [(4, .ref (tq k)), (3, .ref ab), (0, .ref 3), (1, .int (nI k)), (2, .int t)]) dX11_breaks_11 (by decide) rfl ?_
  refine x_aload dX11_breaks_13 0 rfl ?_
  refine x_ifnonnull (tgt := 21) dX11_breaks_15 (by decide) ?_
  refine x_iconst (v := 0) dX11_breaks_21 (by decide) ?_
  refine x_istore (lv2 := [(5, .int 0), (4, .ref (tq k)), (3, .ref ab), (0, .ref 3), (1, .int (nI k)), (2, .int t)]) dX11_breaks_22 (by decide) rfl ?_
  refine x_perm [0, 3, 4, 2, 1] rfl ?_
  obtain ⟨kp0, f35⟩ := hkp
  refine l_breaks0 f3 (fun h1 kp1 sm1 e1 f351 => ?_) 6 0 kp0 h rfl (by omega) Sm.rf (fun j hj => absurd hj (Nat.not_lt_zero j)) f35
  refine x_iconst (v := 0) dX11_breaks_46 (by decide) ?_
  refine x_istore (lv2 := [(5, .int 0), (0, .ref 3), (1, .int (nI k)), (3, .ref ab), (4, .ref (tq k))]) dX11_breaks_47 (by decide) rfl ?_
  refine x_perm [0, 1, 2, 3, 4] rfl ?_
  refine (l_breaks W hk f3 hB r0 r4 (by omega) (by omega) (fun j hj => (k1 j hj).2) (k2 k hk).2 k4 (curC n dy ct t).2.2.2 0 (fun _ => 100) kp1 h1 rfl (by omega) (sm1.wide (by decide)) (hcu.kept (fun j hj => sm1.2.2 j (by revert j; decide))) (fun j hj => ⟨e1 j hj, by omega⟩) f351).weaken (fun o ho => ?_)
  obtain ⟨o1, o2, o3, o4⟩ := ho
  have eb : spBk (curR n dy rc t) (curC n dy ct t) (nI k) = brF (curR n dy rc t) k (curC n dy ct t).2.2.2 0 (fun _ => 100) := by unfold spBk; rw [if_neg nb1, nI_clamp (by omega)]
  unfold spBkA spBkT
  rw [if_neg nb1, eb]
  cases e9 : brF (curR n dy rc t) k (curC n dy ct t).2.2.2 0 (fun _ => 100) with
  | none => rw [e9] at o4; exact ⟨o4.1, o4.2, o2, o3, o1⟩
  | some x => rw [e9] at o4; exact ⟨o4.1, o4.2, o2, o3, o1⟩

theorem c_breaks {G : GT} {h : List PE} {n td : Nat} {dy : Nat → Int32} {rc : Nat → Nat → Int32} {ct : Nat → Nat × Nat × Nat × Nat} {fk br t : Int32} {th : Int32} (hfa : FaR h n td fk br) (hbk : BkR h n dy rc ct) (hn : n ≤ 20) (hcu : CuR h) (hkp : KpR h) (W : WFk (curR n dy rc t) (curC n dy ct t)) : CT G mX11_breaks 5 113 [.ref 3, .int th, .int t] h (fun o => o.1 = some (.int (spBkA (curR n dy rc t) (curC n dy ct t) th)) ∧ FaR o.2 n td fk (spBkT (curR n dy rc t) (curC n dy ct t) th br) ∧ CuR o.2 ∧ KpR o.2 ∧ Sm [3, 21, 22, 23, 24, 35] h o.2) := by
  by_cases h1 : bT (curC n dy ct t) th
  · exact c_breaksN hfa hbk hn hcu hkp W h1
  · obtain ⟨k, hk, rfl⟩ := ix_of (by have := W.2.2.2.1; omega) h1
    exact c_breaksS hfa hbk hn hcu hkp W hk

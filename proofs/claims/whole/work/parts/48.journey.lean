set_option maxRecDepth 100000 in
set_option maxHeartbeats 4000000 in
theorem l_journey {G : GT} {h0 : List PE} {n td tn : Nat} {tv : Nat → Nat} {fk br : Int32} {rec : Nat → Int32} {c : Nat × Nat × Nat × Nat} {k ab ta : Nat} {fq : Nat → Nat} {day : Int32} (W : WFk rec c) (hk : k < c.2.1) (hfa : FaR h0 n td fk br) (hTp : TpR h0 tn tv) (htn : tn ≤ 640) (htv : ∀ j, j < tn → tv j < 256) (h10 : tn % 10 = 0) (hB : BookAt h0 rec c.1 c.2.1 c.2.2.1 c.2.2.2 ab day) (hF : ∀ j, j < c.1 → ∀ np, rec (4 + 20 * j) = nI np → np ≤ 8 → FoamAt h0 rec (4 + 20 * j) np (fq j)) (hT : ThingAt h0 rec (164 + 24 * k) fq ta) : ∀ (m fm : Nat) (p : Int64) (h : List PE), tn - fm = 10 * m → fm ≤ tn → legsOk tv m fm = true → Sm [21, 22, 23, 24] h0 h → CuR h → X (NF G) G mX11_journey 6 114 39 [(6, .int (nI fm)), (4, .long p), (0, .ref 3), (3, .ref ta)] [] h (fun o => o.1 = some (.long (jgP rec k tv m fm p)) ∧ TpR o.2 0 tv ∧ CuR o.2 ∧ Sm [4, 21, 22, 23, 24] h0 o.2) := by
  have f3 : h0[3]? = some (cO 11 [.ref 4, .ref 6, .ref 15, .ref 16, .ref 21, .ref 25, .ref 32, .ref 35, .int (nI n), .int (nI td), .int fk, .int br]) := hfa
  intro m
  induction m with
  | zero =>
    intro fm p h hm hf hl sm hcu
    have g3 := sm.at f3 (by decide)
    have gTp := hTp.kept (fun j hj => sm.2.2 j (by revert j; decide))
    obtain ⟨tb, f4, f5, e5⟩ := id gTp
    have sm4 : Sm [4] h h := Sm.rf
    refine x_iload dX11_journey_39 0 rfl ?_
    refine x_aload_n dX11_journey_41 2 rfl ?_
    refine x_get (v := .ref 4) dX11_journey_42 fX11_10 g3 (by decide) rfl ?_
    refine x_get (v := .int (nI tn)) dX11_journey_45 fX11_72 f4 (by decide) rfl ?_
    refine x_icmp_geN (tgt := 109) (a := fm) (b := tn) (by omega) (by omega) dX11_journey_48 (by decide) (fun c_48 => ?_) (fun c_48 => absurd (by omega) c_48)
    refine x_aload_n dX11_journey_109 2 rfl ?_
    refine x_get (v := .ref 4) dX11_journey_110 fX11_10 g3 (by decide) rfl ?_
    refine x_iconst (v := 0) dX11_journey_113 (by decide) ?_
    refine x_put (fs2 := [.ref 5, .int 0]) dX11_journey_114 fX11_72 (Or.inl rfl) f4 (by decide) rfl rfl (Nat.le_of_ble_eq_true rfl) rfl (fun h1 a2 e3 l4 s5 => ?_)
    have f6 := (e3 3 (by decide)).trans g3
    have sm7 := Sm.put sm4 e3 l4 s5 (by decide)
    refine x_lload dX11_journey_117 1 rfl ?_
    exact x_lret dX11_journey_119 rfl ⟨rfl, ⟨tb, a2, sm7.at f5 (by decide), fun j hj => absurd hj (Nat.not_lt_zero j)⟩, hcu.kept (fun j hj => sm7.2.2 j (by revert j; decide)), (sm.wide (by decide)).tr (sm7.wide (by decide))⟩
  | succ m ih =>
    intro fm p h hm hf hl sm hcu
    have g3 := sm.at f3 (by decide)
    have gfa : FaR h n td fk br := g3
    have gTp := hTp.kept (fun j hj => sm.2.2 j (by revert j; decide))
    obtain ⟨tb, f4, f5, e5⟩ := id gTp
    have gB := hB.kept (sm.keep (by unfold Keep; decide))
    have gF : ∀ j, j < c.1 → ∀ np, rec (4 + 20 * j) = nI np → np ≤ 8 → FoamAt h rec (4 + 20 * j) np (fq j) := fun j hj np x1 x2 => (hF j hj np x1 x2).kept (fun i z hi hz => sm.at hz (by simp; omega))
    have gT := hT.kept (fun i z hi hz => sm.at hz (by simp; omega))
    have hta := hT.1
    rw [legsOk] at hl
    obtain ⟨hl1, hl2⟩ := Bool.and_eq_true_iff.mp hl
    obtain ⟨hsd, hsh⟩ := legOk_is hl1
    have js := jgS_le htv (show fm + 10 ≤ tn by omega)
    obtain ⟨thick, area, keeps, kept, cc, fr, pu, sv, g21, -⟩ := id hcu
    refine x_iload dX11_journey_39 0 rfl ?_
    refine x_aload_n dX11_journey_41 2 rfl ?_
    refine x_get (v := .ref 4) dX11_journey_42 fX11_10 g3 (by decide) rfl ?_
    refine x_get (v := .int (nI tn)) dX11_journey_45 fX11_72 f4 (by decide) rfl ?_
    refine x_icmp_geN (tgt := 109) (a := fm) (b := tn) (by omega) (by omega) dX11_journey_48 (by decide) (fun c_48 => absurd c_48 (by omega)) (fun c_48 => ?_)
    refine x_aload_n dX11_journey_51 2 rfl ?_
    refine x_iload dX11_journey_52 0 rfl ?_
    refine x_callV (rf' := 2) (rl' := 43) [.int (nI fm)] [] dX11_journey_54 vX11_249 Y_X11_sharesOfLeg g3 (by decide) rfl rfl (Nat.le_of_ble_eq_true rfl) (Nat.le_of_ble_eq_true rfl) (by decide) (by decide) (c_sharesOfLeg gfa gTp htn htv (by omega)) (fun _ _ q1 => ?_)
    cases q1
    refine x_istore (lv2 := [(7, .int (nI (jgS tv fm))), (6, .int (nI fm)), (4, .long p), (0, .ref 3), (3, .ref ta)]) dX11_journey_57 (by decide) rfl ?_
    refine x_aload_n dX11_journey_59 3 rfl ?_
    refine x_get (v := .ref 21) dX11_journey_60 fX11_37 g3 (by decide) rfl ?_
    refine x_aload_n dX11_journey_63 4 rfl ?_
    refine x_aload_n dX11_journey_64 3 rfl ?_
    refine x_get (v := .ref 4) dX11_journey_65 fX11_10 g3 (by decide) rfl ?_
    refine x_iload dX11_journey_68 1 rfl ?_
    refine x_callV (rf' := 0) (rl' := 0) [.int (nI fm)] [.ref ta, .ref 21] dX11_journey_70 vX11_176 Y_X8_byteAt f4 (by decide) rfl rfl (Nat.le_of_ble_eq_true rfl) (Nat.le_of_ble_eq_true rfl) (by decide) (by decide) (c_byteL gTp htn (by omega)) (fun _ _ q1 => ?_)
    cases q1
    refine x_callV (rf' := 3) (rl' := 64) [.ref ta, .int (nI (tv fm))] [] dX11_journey_73 vX11_252 Y_X4_layPad g21 (by decide) rfl rfl (Nat.le_of_ble_eq_true rfl) (Nat.le_of_ble_eq_true rfl) (by decide) (by decide) (c_layPadL hcu gB W hk hsd ta fq gF gT) (fun r h1 q1 => ?_)
    obtain ⟨q0, L1, sm1⟩ := q1
    cases q0
    have hT1 := gT.kept (fun j c hj hc => sm1.at hc (by simp; omega))
    have f31 := sm1.at g3 (by decide)
    have hfa1 : FaR h1 n td fk br := f31
    have hTp1 := gTp.kept (fun j hj => sm1.2.2 j (by revert j; decide))
    have f41 := sm1.at f4 (by decide)
    have hp := pcN_le (sd := tv fm) W (W.2.2.2.2.2.2.2.2.2.1 k hk) hsd
    refine x_iload dX11_journey_76 0 rfl ?_
    refine x_iconst (v := 1) dX11_journey_78 (by decide) ?_
    refine x_icmp_geN (tgt := 86) (a := (jgS tv fm)) (b := 1) (by omega) (by omega) dX11_journey_79 (by decide) (fun c_79 => ?_) (fun c_79 => absurd (by omega) c_79)
    refine x_lload dX11_journey_86 2 rfl ?_
    refine x_aload_n dX11_journey_88 3 rfl ?_
    refine x_aload_n dX11_journey_89 4 rfl ?_
    refine x_iload dX11_journey_90 1 rfl ?_
    refine x_callV (rf' := 4) (rl' := 90) [.ref ta, .int (nI fm)] [.long p] dX11_journey_92 vX11_256 Y_X11_heldSharesOfLeg f31 (by decide) rfl rfl (Nat.le_of_ble_eq_true rfl) (Nat.le_of_ble_eq_true rfl) (by decide) (by decide) (c_heldShares hfa1 hTp1 htn htv W hk hsd L1 hT1 (show fm + 10 ≤ tn by omega)) (fun _ _ q1 => ?_)
    cases q1
    refine x_i2l dX11_journey_95 ?_
    refine x_lmul dX11_journey_96 ?_
    refine x_iload dX11_journey_97 0 rfl ?_
    refine x_i2l dX11_journey_99 ?_
    refine x_ldiv dX11_journey_100 (nI_one hsh (by omega)).2 ?_
    refine x_lstore (lv2 := [(4, .long ((p * ((nI (hdL rec k tv fm))).toInt64) / ((nI (jgS tv fm))).toInt64)), (7, .int (nI (jgS tv fm))), (6, .int (nI fm)), (0, .ref 3), (3, .ref ta)]) dX11_journey_101 (by decide) rfl ?_
    refine x_iinc (lv2 := [(6, .int (nI (fm + 10))), (4, .long ((p * ((nI (hdL rec k tv fm))).toInt64) / ((nI (jgS tv fm))).toInt64)), (7, .int (nI (jgS tv fm))), (0, .ref 3), (3, .ref ta)]) dX11_journey_103 2 rfl (nI_add fm 10) (by decide) rfl ?_
    refine x_goto (tgt := 39) dX11_journey_106 (by decide) ?_
    refine x_perm [0, 1, 3, 4] rfl ?_
    exact (ih (fm + 10) _ h1 (by omega) (by omega) hl2 (sm.tr sm1) (L1.cu hp)).weaken (fun o ho => ⟨ho.1, ho.2.1, ho.2.2.1, ho.2.2.2⟩)

set_option maxRecDepth 100000 in
set_option maxHeartbeats 4000000 in
theorem c_journeyS {G : GT} {h : List PE} {n td : Nat} {dy : Nat → Int32} {rc : Nat → Nat → Int32} {ct : Nat → Nat × Nat × Nat × Nat} {fk br t : Int32} {k : Nat} (hfa : FaR h n td fk br) (hbk : BkR h n dy rc ct) (hn : n ≤ 20) (W : WFk (curR n dy rc t) (curC n dy ct t)) {tn : Nat} {tv : Nat → Nat} (hTp : TpR h tn tv) (htn : tn ≤ 640) (htv : ∀ j, j < tn → tv j < 256) (hcu : CuR h) (hk : k < (curC n dy ct t).2.1) (hj : jgOk tn tv) : CT G mX11_journey 6 114 [.ref 3, .int (nI k), .int t] h (fun o => o.1 = some (.long (jgP (curR n dy rc t) k tv (tn / 10) 0 1000000000000000)) ∧ TpR o.2 0 tv ∧ CuR o.2 ∧ Sm [4, 21, 22, 23, 24] h o.2) := by
  obtain ⟨zb, bq, ab, day, f15, hd, hab, hB⟩ := hbk.cur t
  obtain ⟨hb0, b1, b2, b3, b4, fq, tq, bq2, dq, zf, zt, zb2, zd, ln, q1, q2, q3, q4, q5, r0, r1, r2, r3, r4, k1, k2, k3, k4⟩ := id hB
  have f3 : h[3]? = some (cO 11 [.ref 4, .ref 6, .ref 15, .ref 16, .ref 21, .ref 25, .ref 32, .ref 35, .int (nI n), .int (nI td), .int fk, .int br]) := hfa
  obtain ⟨tb, f4, f5, e5⟩ := id hTp
  show X (NF G) G mX11_journey 6 114 0 [(0, .ref 3), (1, .int (nI k)), (2, .int t)] [] h _
  refine x_aload_n dX11_journey_0 0 rfl ?_
  refine x_iload_n dX11_journey_1 2 rfl ?_
  refine x_callV (rf' := 1) (rl' := 21) [.int t] [] dX11_journey_2 vX11_95 Y_X11_asOf f3 (by decide) rfl rfl (Nat.le_of_ble_eq_true rfl) (Nat.le_of_ble_eq_true rfl) (by decide) (by decide) (c_asOf hfa f15 hn hd) (fun _ _ e1 => ?_)
  cases e1
  rw [hab]
  refine x_iload_n dX11_journey_5 1 rfl ?_
  refine x_callV (rf' := 0) (rl' := 0) [.int (nI k)] [] dX11_journey_6 vX11_155 Y_X0_thingAt r0 (by omega) rfl rfl (Nat.le_of_ble_eq_true rfl) (Nat.le_of_ble_eq_true rfl) (by decide) (by decide) (c_thingAtS r0 r2 (by omega) (by omega) W.2.2.2.1 hk (k2 k hk).1) (fun _ _ e1 => ?_)
  cases e1
  refine x_astore_n (lv2 := [(3, .ref (tq k)), (0, .ref 3), (1, .int (nI k)), (2, .int t)]) dX11_journey_9 (by decide) rfl ?_
  refine x_aload_n dX11_journey_10 0 rfl ?_
  refine x_ifnull dX11_journey_11 ?_
  refine x_aload_n dX11_journey_14 1 rfl ?_
  refine x_callV (rf' := 3) (rl' := 64) [] [] dX11_journey_15 vX11_237 Y_X11_tapeTellsLegs f3 (by decide) rfl rfl (Nat.le_of_ble_eq_true rfl) (Nat.le_of_ble_eq_true rfl) (by decide) (by decide) (c_tellsLegs hfa hTp htn htv) (fun _ _ e1 => ?_)
  cases e1
  rw [if_pos hj]
  refine x_if_ne (tgt := 31) dX11_journey_18 (by decide) (fun c_18 => ?_) (fun c_18 => absurd c_18 (by decide))
  refine x_ldc2 (v := 1000000000000000) dX11_journey_31 kX11_247 ?_
  refine x_lstore (lv2 := [(4, .long 1000000000000000), (3, .ref (tq k)), (0, .ref 3), (1, .int (nI k)), (2, .int t)]) dX11_journey_34 (by decide) rfl ?_
  refine x_iconst (v := 0) dX11_journey_36 (by decide) ?_
  refine x_istore (lv2 := [(6, .int 0), (4, .long 1000000000000000), (3, .ref (tq k)), (0, .ref 3), (1, .int (nI k)), (2, .int t)]) dX11_journey_37 (by decide) rfl ?_
  refine x_perm [0, 1, 3, 2] rfl ?_
  exact l_journey W hk hfa hTp htn htv hj.2.2.1 hB (fun j hj => (k1 j hj).2) (k2 k hk).2 (tn / 10) 0 _ h (by have := hj.2.2.1; omega) (by omega) hj.2.2.2 Sm.rf hcu

set_option maxRecDepth 100000 in
set_option maxHeartbeats 4000000 in
theorem c_journeyB1 {Ω : Type} {F : FT Ω} {Q : Ω → Prop} {G : GT} {h : List PE} {n td : Nat} {dy : Nat → Int32} {rc : Nat → Nat → Int32} {ct : Nat → Nat × Nat × Nat × Nat} {fk br t : Int32} {th : Int32} (hfa : FaR h n td fk br) (hbk : BkR h n dy rc ct) (hn : n ≤ 20) (W : WFk (curR n dy rc t) (curC n dy ct t)) {tn : Nat} {tv : Nat → Nat} (hTp : TpR h tn tv) (htn : tn ≤ 640) (htv : ∀ j, j < tn → tv j < 256) (hs : bT (curC n dy ct t) th) (K : X F G mX11_journey 6 114 21 [(0, .ref 3)] [] h Q) : X F G mX11_journey 6 114 0 [(0, .ref 3), (1, .int th), (2, .int t)] [] h Q := by
  obtain ⟨zb, bq, ab, day, f15, hd, hab, hB⟩ := hbk.cur t
  obtain ⟨hb0, b1, b2, b3, b4, fq, tq, bq2, dq, zf, zt, zb2, zd, ln, q1, q2, q3, q4, q5, r0, r1, r2, r3, r4, k1, k2, k3, k4⟩ := id hB
  have f3 : h[3]? = some (cO 11 [.ref 4, .ref 6, .ref 15, .ref 16, .ref 21, .ref 25, .ref 32, .ref 35, .int (nI n), .int (nI td), .int fk, .int br]) := hfa
  obtain ⟨tb, f4, f5, e5⟩ := id hTp
  refine x_aload_n dX11_journey_0 0 rfl ?_
  refine x_iload_n dX11_journey_1 2 rfl ?_
  refine x_callV (rf' := 1) (rl' := 21) [.int t] [] dX11_journey_2 vX11_95 Y_X11_asOf f3 (by decide) rfl rfl (Nat.le_of_ble_eq_true rfl) (Nat.le_of_ble_eq_true rfl) (by decide) (by decide) (c_asOf hfa f15 hn hd) (fun _ _ e1 => ?_)
  cases e1
  rw [hab]
  refine x_iload_n dX11_journey_5 1 rfl ?_
  refine x_callV (rf' := 0) (rl' := 0) [.int th] [] dX11_journey_6 vX11_155 Y_X0_thingAt r0 (by omega) rfl rfl (Nat.le_of_ble_eq_true rfl) (Nat.le_of_ble_eq_true rfl) (by decide) (by decide) (c_thingAtN r0 (by omega) hs) (fun _ _ e1 => ?_)
  cases e1
  refine x_astore_nN (lv2 := [(3, .null), (0, .ref 3), (1, .int th), (2, .int t)]) dX11_journey_9 (by decide) rfl ?_
  refine x_aload_nN dX11_journey_10 0 rfl ?_
  refine x_ifnullN (tgt := 21) dX11_journey_11 (by decide) ?_
  refine x_perm [1] rfl ?_
  exact K

set_option maxRecDepth 100000 in
set_option maxHeartbeats 4000000 in
theorem c_journeyB2 {Ω : Type} {F : FT Ω} {Q : Ω → Prop} {G : GT} {h : List PE} {n td : Nat} {dy : Nat → Int32} {rc : Nat → Nat → Int32} {ct : Nat → Nat × Nat × Nat × Nat} {fk br t : Int32} {k : Nat} (hfa : FaR h n td fk br) (hbk : BkR h n dy rc ct) (hn : n ≤ 20) (W : WFk (curR n dy rc t) (curC n dy ct t)) {tn : Nat} {tv : Nat → Nat} (hTp : TpR h tn tv) (htn : tn ≤ 640) (htv : ∀ j, j < tn → tv j < 256) (hk : k < (curC n dy ct t).2.1) (hj : ¬ jgOk tn tv) (K : X F G mX11_journey 6 114 21 [(0, .ref 3)] [] h Q) : X F G mX11_journey 6 114 0 [(0, .ref 3), (1, .int (nI k)), (2, .int t)] [] h Q := by
  obtain ⟨zb, bq, ab, day, f15, hd, hab, hB⟩ := hbk.cur t
  obtain ⟨hb0, b1, b2, b3, b4, fq, tq, bq2, dq, zf, zt, zb2, zd, ln, q1, q2, q3, q4, q5, r0, r1, r2, r3, r4, k1, k2, k3, k4⟩ := id hB
  have f3 : h[3]? = some (cO 11 [.ref 4, .ref 6, .ref 15, .ref 16, .ref 21, .ref 25, .ref 32, .ref 35, .int (nI n), .int (nI td), .int fk, .int br]) := hfa
  obtain ⟨tb, f4, f5, e5⟩ := id hTp
  refine x_aload_n dX11_journey_0 0 rfl ?_
  refine x_iload_n dX11_journey_1 2 rfl ?_
  refine x_callV (rf' := 1) (rl' := 21) [.int t] [] dX11_journey_2 vX11_95 Y_X11_asOf f3 (by decide) rfl rfl (Nat.le_of_ble_eq_true rfl) (Nat.le_of_ble_eq_true rfl) (by decide) (by decide) (c_asOf hfa f15 hn hd) (fun _ _ e1 => ?_)
  cases e1
  rw [hab]
  refine x_iload_n dX11_journey_5 1 rfl ?_
  refine x_callV (rf' := 0) (rl' := 0) [.int (nI k)] [] dX11_journey_6 vX11_155 Y_X0_thingAt r0 (by omega) rfl rfl (Nat.le_of_ble_eq_true rfl) (Nat.le_of_ble_eq_true rfl) (by decide) (by decide) (c_thingAtS r0 r2 (by omega) (by omega) W.2.2.2.1 hk (k2 k hk).1) (fun _ _ e1 => ?_)
  cases e1
  refine x_astore_n (lv2 := [(3, .ref (tq k)), (0, .ref 3), (1, .int (nI k)), (2, .int t)]) dX11_journey_9 (by decide) rfl ?_
  refine x_aload_n dX11_journey_10 0 rfl ?_
  refine x_ifnull dX11_journey_11 ?_
  refine x_aload_n dX11_journey_14 1 rfl ?_
  refine x_callV (rf' := 3) (rl' := 64) [] [] dX11_journey_15 vX11_237 Y_X11_tapeTellsLegs f3 (by decide) rfl rfl (Nat.le_of_ble_eq_true rfl) (Nat.le_of_ble_eq_true rfl) (by decide) (by decide) (c_tellsLegs hfa hTp htn htv) (fun _ _ e1 => ?_)
  cases e1
  rw [if_neg hj]
  refine x_if_ne (tgt := 31) dX11_journey_18 (by decide) (fun c_18 => absurd (by decide) c_18) (fun c_18 => ?_)
  refine x_perm [1] rfl ?_
  exact K

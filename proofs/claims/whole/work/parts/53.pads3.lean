abbrev bB (c : Nat × Nat × Nat × Nat) (bx : Int32) : Prop := bx < 0 ∨ nI c.2.2.1 ≤ bx
abbrev bA (ar : Int32) : Prop := ar < 1 ∨ 2000 < ar
abbrev bPd (c : Nat × Nat × Nat × Nat) (th bx ar hh : Int32) (tn : Nat) (tv : Nat → Nat) : Prop := bT c th ∨ bB c bx ∨ bA ar ∨ bH hh ∨ ¬ kdsOk c.1 tn tv
noncomputable def pdR (rec : Nat → Int32) (k b : Nat) (ar hh : Int32) (tn : Nat) (tv : Nat → Nat) (a : Nat) : Int32 × Nat × Nat := pjR (kHo rec k ar hh tv) (kCo rec ar tv) (kTk tv) (tn / 2) (rec (356 + 6 * b + a) - rec (164 + 24 * k + 1 + a))
noncomputable def spPdA (rec : Nat → Int32) (c : Nat × Nat × Nat × Nat) (th bx ar hh : Int32) (tn : Nat) (tv : Nat → Nat) : Int32 := if bPd c th bx ar hh tn tv then -2 else match spPa (pdR rec th.toNatClampNeg bx.toNatClampNeg ar hh tn tv) with
  | none => -1
  | some x => x.1
noncomputable def spPdK (rec : Nat → Int32) (c : Nat × Nat × Nat × Nat) (th bx ar hh : Int32) (tn : Nat) (tv : Nat → Nat) (old : Nat → Int32) : Nat → Int32 := if bPd c th bx ar hh tn tv then old else match spPa (pdR rec th.toNatClampNeg bx.toNatClampNeg ar hh tn tv) with
  | none => old
  | some x => x.2

set_option maxRecDepth 100000 in
set_option maxHeartbeats 4000000 in
theorem l_padsK {G : GT} {h0 : List PE} {n td tn ab b1 b2 b3 b4 k an ta ba : Nat} {fk br n1 n2 n3 ln day hh : Int32} {tv fq : Nat → Nat} {zf : Nat → Option Nat} {rec z1 z2 z3 : Nat → Int32} {c : Nat × Nat × Nat × Nat} {Q : OT → Prop} (W : WFk rec c) (hk : k < c.2.1) (ha : an ≤ 2000) (hfa : FaR h0 n td fk br) (hkd : kdsOk c.1 tn tv) (fab : h0[ab]? = some (cO 0 [.ref b1, .ref b2, .ref b3, .ref b4, .int (nI (c.1)), .int n1, .int n2, .int n3, .int ln, .int day])) (fb1 : h0[b1]? = some (cR 4 8 zf)) (hab : ab = 16 ∨ 51 ≤ ab) (hb1 : b1 = 17 ∨ 51 ≤ b1) (hF : ∀ k, k < c.1 → zf k = some (fq k) ∧ ∀ np, rec (4 + 20 * k) = nI np → np ≤ 8 → FoamAt h0 rec (4 + 20 * k) np (fq k)) (hT : ThingAt h0 rec (164 + 24 * k) fq ta) (f25 : h0[25]? = some (cO 7 [.ref 26, .ref 27, .ref 28, .ref 29, .ref 30, .ref 31, .int (nI (tn / 2))])) (f26 : h0[26]? = some (cI 10 z1)) (f27 : h0[27]? = some (cI 10 z2)) (f28 : h0[28]? = some (cI 10 z3)) (hA : ∀ j, j < tn / 2 → z1 j = nI (tv (2 * j)) ∧ z2 j = kTk tv j ∧ z3 j = rec (kFo tv j + 2)) (KX : ∀ (h : List PE) (z4 : Nat → Int32), Sm [21, 22, 23, 24, 29] h0 h → CuR h → h[29]? = some (cI 10 z4) → (∀ j, j < tn / 2 → z4 j = if kHo rec k (nI an) hh tv j = true then kCo rec (nI an) tv j else -1) → X (NF G) G mX11_pads 4 90 125 [(0, .ref 3), (7, .ref ta), (8, .ref ba)] [] h Q) : ∀ (m q : Nat) (z4 : Nat → Int32) (h : List PE), tn / 2 - q = m → q ≤ tn / 2 → Sm [21, 22, 23, 24, 29] h0 h → CuR h → h[29]? = some (cI 10 z4) → (∀ j, j < q → z4 j = if kHo rec k (nI an) hh tv j = true then kCo rec (nI an) tv j else -1) → X (NF G) G mX11_pads 4 90 77 [(10, .int (nI q)), (0, .ref 3), (3, .int (nI an)), (4, .int hh), (6, .ref ab), (7, .ref ta), (8, .ref ba)] [] h Q := by
  have f3 : h0[3]? = some (cO 11 [.ref 4, .ref 6, .ref 15, .ref 16, .ref 21, .ref 25, .ref 32, .ref 35, .int (nI n), .int (nI td), .int fk, .int br]) := hfa
  obtain ⟨u1, u2, u3, u4⟩ := id hkd
  intro m
  induction m with
  | zero =>
    intro q z4 h hm hq sm hcu f29 h4
    have g3 := sm.at f3 (by decide)
    have g25 := sm.at f25 (by decide)
    refine x_iload dX11_pads_77 0 rfl ?_
    refine x_aload_n dX11_pads_79 1 rfl ?_
    refine x_get (v := .ref 25) dX11_pads_80 fX11_44 g3 (by decide) rfl ?_
    refine x_get (v := .int (nI (tn / 2))) dX11_pads_83 fX11_198 g25 (by decide) rfl ?_
    refine x_icmp_geN (tgt := 125) (a := q) (b := (tn / 2)) (by omega) (by omega) dX11_pads_86 (by decide) (fun c_86 => ?_) (fun c_86 => absurd (by omega) c_86)
    refine x_perm [1, 5, 6] rfl ?_
    exact KX h z4 sm hcu f29 (fun j hj => h4 j (by omega))
  | succ m ih =>
    intro q z4 h hm hq sm hcu f29 h4
    have g3 := sm.at f3 (by decide)
    have gfa : FaR h n td fk br := g3
    have g25 := sm.at f25 (by decide)
    have g26 := sm.at f26 (by decide)
    have g27 := sm.at f27 (by decide)
    have g28 := sm.at f28 (by decide)
    have gab := sm.at fab (by simp; omega)
    have gb1 := sm.at fb1 (by simp; omega)
    obtain ⟨v1, v2, v3⟩ := kdOk_at _ _ u4 q (by omega) (by omega)
    obtain ⟨hz, hF1⟩ := hF _ v1
    obtain ⟨np, P, U, ke, pr, WF⟩ := W.2.2.2.2.2.2.2.2.1 _ v1
    have WF := WF.canon
    have hF2 := (hF1 _ WF.1 WF.2.2.1).kept (fun i z hi hz => sm.at hz (by simp; omega))
    have gT := hT.kept (fun i z hi hz => sm.at hz (by simp; omega))
    obtain ⟨a1, a2, a3⟩ := hA q (by omega)
    have w2 := W.2.1
    refine x_iload dX11_pads_77 0 rfl ?_
    refine x_aload_n dX11_pads_79 1 rfl ?_
    refine x_get (v := .ref 25) dX11_pads_80 fX11_44 g3 (by decide) rfl ?_
    refine x_get (v := .int (nI (tn / 2))) dX11_pads_83 fX11_198 g25 (by decide) rfl ?_
    refine x_icmp_geN (tgt := 125) (a := q) (b := (tn / 2)) (by omega) (by omega) dX11_pads_86 (by decide) (fun c_86 => absurd c_86 (by omega)) (fun c_86 => ?_)
    refine x_aload_n dX11_pads_89 1 rfl ?_
    refine x_aload dX11_pads_90 4 rfl ?_
    refine x_iload dX11_pads_92 0 rfl ?_
    refine x_iload_n dX11_pads_94 2 rfl ?_
    refine x_callV (rf' := 3) (rl' := 64) [.ref ab, .int (nI q), .int (nI an)] [] dX11_pads_95 vX11_201 Y_X11_layKind g3 (by decide) rfl rfl (Nat.le_of_ble_eq_true rfl) (Nat.le_of_ble_eq_true rfl) (by decide) (by decide) (c_layKind gfa hcu gab gb1 hab hb1 w2 hz v1 WF hF2 g25 g26 g27 (by omega) a1 a2) (fun r h1 x1 => ?_)
    obtain ⟨x0, L1, sm1⟩ := x1
    cases x0
    have gT1 := gT.kept (fun i z hi hz => sm1.at hz (by simp; omega))
    have k3 := sm1.at g3 (by decide)
    have k25 := sm1.at g25 (by decide)
    have k27 := sm1.at g27 (by decide)
    have k28 := sm1.at g28 (by decide)
    have k29 := sm1.at f29 (by decide)
    obtain ⟨fr, pu, sv, k21, -⟩ := id L1
    refine x_aload_n dX11_pads_98 1 rfl ?_
    refine x_get (v := .ref 25) dX11_pads_99 fX11_44 k3 (by decide) rfl ?_
    refine x_iload dX11_pads_102 0 rfl ?_
    refine x_iload_n dX11_pads_104 2 rfl ?_
    refine x_aload_n dX11_pads_105 1 rfl ?_
    refine x_get (v := .ref 21) dX11_pads_106 fX11_37 k3 (by decide) rfl ?_
    refine x_aload dX11_pads_109 5 rfl ?_
    refine x_iload dX11_pads_111 3 rfl ?_
    refine x_callV (rf' := 3) (rl' := 67) [.ref ta, .int hh] [.int (nI an), .int (nI q), .ref 25] dX11_pads_113 vX11_148 Y_X4_holds k21 (by decide) rfl rfl (Nat.le_of_ble_eq_true rfl) (Nat.le_of_ble_eq_true rfl) (by decide) (by decide) (c_holdsF L1 WF gT1 W hk ha) (fun _ _ x1 => ?_)
    cases x1
    rw [show hoF (stR rec (kFo tv q) 100) (cuR rec (kFo tv q) 100) (cnR rec (kFo tv q)) (kTk tv q).toInt64 (nI an).toInt64 (rec (164 + 24 * k)) hh (rec (164 + 24 * k + 4)) = kHo rec k (nI an) hh tv q from rfl]
    by_cases hO : kHo rec k (nI an) hh tv q = true
    · rw [if_pos hO]
      refine x_callV (rf' := 0) (rl' := 0) [.int (nI q), .int (nI an), .int 1] [] dX11_pads_116 vX11_205 Y_X7_judge k25 (by decide) rfl rfl (Nat.le_of_ble_eq_true rfl) (Nat.le_of_ble_eq_true rfl) (by decide) (by decide) (c_judgeT k25 k27 k28 k29 (by omega)) (fun r h2 x1 => ?_)
      obtain ⟨x0, j29, sm2⟩ := x1
      cases x0
      refine x_iincN (lv2 := [(10, .int (nI (q + 1))), (0, .ref 3), (3, .int (nI an)), (4, .int hh), (6, .ref ab), (7, .ref ta), (8, .ref ba)]) dX11_pads_119 0 rfl (by decide) rfl ?_
      refine x_goto (tgt := 77) dX11_pads_122 (by decide) ?_
      refine x_perm [0, 1, 2, 3, 4, 5, 6] rfl ?_
      refine ih (q + 1) _ h2 (by omega) (by omega) (sm.tr ((sm1.wide (by decide)).tr (sm2.wide (by decide)))) ((L1.cu WF).kept (fun j hj => sm2.2.2 j (by revert j; decide))) j29 (fun j hj => ?_)
      by_cases ej : j = q
      · subst ej; rw [pk_us, if_pos hO]; rw [a2, a3]; rfl
      · rw [pk_un ej]; exact h4 j (by omega)
    · rw [if_neg hO]
      refine x_callV (rf' := 0) (rl' := 0) [.int (nI q), .int (nI an), .int 0] [] dX11_pads_116 vX11_205 Y_X7_judge k25 (by decide) rfl rfl (Nat.le_of_ble_eq_true rfl) (Nat.le_of_ble_eq_true rfl) (by decide) (by decide) (c_judgeF k25 k27 k28 k29 (by omega)) (fun r h2 x1 => ?_)
      obtain ⟨x0, j29, sm2⟩ := x1
      cases x0
      refine x_iincN (lv2 := [(10, .int (nI (q + 1))), (0, .ref 3), (3, .int (nI an)), (4, .int hh), (6, .ref ab), (7, .ref ta), (8, .ref ba)]) dX11_pads_119 0 rfl (by decide) rfl ?_
      refine x_goto (tgt := 77) dX11_pads_122 (by decide) ?_
      refine x_perm [0, 1, 2, 3, 4, 5, 6] rfl ?_
      refine ih (q + 1) _ h2 (by omega) (by omega) (sm.tr ((sm1.wide (by decide)).tr (sm2.wide (by decide)))) ((L1.cu WF).kept (fun j hj => sm2.2.2 j (by revert j; decide))) j29 (fun j hj => ?_)
      by_cases ej : j = q
      · subst ej; rw [pk_us, if_neg hO]
      · rw [pk_un ej]; exact h4 j (by omega)

set_option maxRecDepth 100000 in
set_option maxHeartbeats 4000000 in
theorem c_padsN1 {G : GT} {h : List PE} {n td : Nat} {dy : Nat → Int32} {rc : Nat → Nat → Int32} {ct : Nat → Nat × Nat × Nat × Nat} {fk br t : Int32} {th bx ar hh : Int32} (hfa : FaR h n td fk br) (hbk : BkR h n dy rc ct) (hn : n ≤ 20) (hcu : CuR h) (W : WFk (curR n dy rc t) (curC n dy ct t)) {tn : Nat} {tv : Nat → Nat} (hTp : TpR h tn tv) (htn : tn ≤ 640) (htv : ∀ j, j < tn → tv j < 256) {pk : Nat → Int32} (hpc : PcR h pk) (hs : bT (curC n dy ct t) th) (hsb : bB (curC n dy ct t) bx) : CT G mX11_pads 4 90 [.ref 3, .int th, .int bx, .int ar, .int hh, .int t] h (fun o => o.1 = some (.int (spPdA (curR n dy rc t) (curC n dy ct t) th bx ar hh tn tv)) ∧ TpR o.2 0 tv ∧ CuR o.2 ∧ PcR o.2 (spPdK (curR n dy rc t) (curC n dy ct t) th bx ar hh tn tv pk) ∧ Sm [4, 21, 22, 23, 24, 25, 26, 27, 28, 29, 30, 31] h o.2) := by
  obtain ⟨zb, bq, ab, day, f15, hd, hab, hB⟩ := hbk.cur t
  obtain ⟨hb0, b1, b2, b3, b4, fq, tq, bq2, dq, zf, zt, zb2, zd, ln, q1, q2, q3, q4, q5, r0, r1, r2, r3, r4, k1, k2, k3, k4⟩ := id hB
  have f3 : h[3]? = some (cO 11 [.ref 4, .ref 6, .ref 15, .ref 16, .ref 21, .ref 25, .ref 32, .ref 35, .int (nI n), .int (nI td), .int fk, .int br]) := hfa
  obtain ⟨tb, f4, f5, e5⟩ := id hTp
  have sm4 : Sm [4] h h := Sm.rf
  obtain ⟨kn, z1, z2, z3, z4, z5, z6, f25, f26, f27, f28, f29, f30, f31, e31⟩ := id hpc
  show X (NF G) G mX11_pads 4 90 0 [(0, .ref 3), (1, .int th), (2, .int bx), (3, .int ar), (4, .int hh), (5, .int t)] [] h _
  refine x_aload_n dX11_pads_0 0 rfl ?_
  refine x_iload dX11_pads_1 5 rfl ?_
  refine x_callV (rf' := 1) (rl' := 21) [.int t] [] dX11_pads_3 vX11_95 Y_X11_asOf f3 (by decide) rfl rfl (Nat.le_of_ble_eq_true rfl) (Nat.le_of_ble_eq_true rfl) (by decide) (by decide) (c_asOf hfa f15 hn hd) (fun _ _ e1 => ?_)
  cases e1
  rw [hab]
  refine x_astore (lv2 := [(6, .ref ab), (0, .ref 3), (1, .int th), (2, .int bx), (3, .int ar), (4, .int hh), (5, .int t)]) dX11_pads_6 (by decide) rfl ?_
  refine x_aload dX11_pads_8 0 rfl ?_
  refine x_iload_n dX11_pads_10 2 rfl ?_
  refine x_callV (rf' := 0) (rl' := 0) [.int th] [] dX11_pads_11 vX11_155 Y_X0_thingAt r0 (by omega) rfl rfl (Nat.le_of_ble_eq_true rfl) (Nat.le_of_ble_eq_true rfl) (by decide) (by decide) (c_thingAtN r0 (by omega) hs) (fun _ _ e1 => ?_)
  cases e1
  refine x_astoreN (lv2 := [(7, .null), (6, .ref ab), (0, .ref 3), (1, .int th), (2, .int bx), (3, .int ar), (4, .int hh), (5, .int t)]) dX11_pads_14 (by decide) rfl ?_
  refine x_aload dX11_pads_16 1 rfl ?_
  refine x_iload_n dX11_pads_18 4 rfl ?_
  refine x_callV (rf' := 0) (rl' := 0) [.int bx] [] dX11_pads_19 vX11_190 Y_X0_boxAt r0 (by omega) rfl rfl (Nat.le_of_ble_eq_true rfl) (Nat.le_of_ble_eq_true rfl) (by decide) (by decide) (c_boxAtN r0 (by omega) hsb) (fun _ _ e1 => ?_)
  cases e1
  refine x_astoreN (lv2 := [(8, .null), (7, .null), (6, .ref ab), (0, .ref 3), (1, .int th), (2, .int bx), (3, .int ar), (4, .int hh), (5, .int t)]) dX11_pads_22 (by decide) rfl ?_
  refine x_bipush (v := (-2)) dX11_pads_24 (by decide) ?_
  refine x_istore (lv2 := [(9, .int (-2)), (8, .null), (7, .null), (6, .ref ab), (0, .ref 3), (1, .int th), (2, .int bx), (3, .int ar), (4, .int hh), (5, .int t)]) dX11_pads_26 (by decide) rfl ?_
  refine x_aloadN dX11_pads_28 2 rfl ?_
  refine x_ifnullN (tgt := 138) dX11_pads_30 (by decide) ?_
  refine x_aload_n dX11_pads_138 4 rfl ?_
  refine x_get (v := .ref 4) dX11_pads_139 fX11_10 f3 (by decide) rfl ?_
  refine x_iconst (v := 0) dX11_pads_142 (by decide) ?_
  refine x_put (fs2 := [.ref 5, .int 0]) dX11_pads_143 fX11_72 (Or.inl rfl) f4 (by decide) rfl rfl (Nat.le_of_ble_eq_true rfl) rfl (fun h101 a102 e103 l104 s105 => ?_)
  have f106 := (e103 3 (by decide)).trans f3
  have f107 := (e103 25 (by decide)).trans f25
  have f108 := (e103 ab (by omega)).trans r0
  have sm109 := Sm.put sm4 e103 l104 s105 (by decide)
  refine x_iload dX11_pads_146 0 rfl ?_
  exact x_iret dX11_pads_148 rfl ⟨by rw [spPdA, if_pos (Or.inl hs)], ⟨tb, a102, sm109.at f5 (by decide), fun j hj => absurd hj (Nat.not_lt_zero j)⟩, hcu.kept (fun j hj => sm109.2.2 j (by revert j; decide)), by unfold spPdK; rw [if_pos (Or.inl hs)]; exact hpc.kept (fun j hj => sm109.2.2 j (by revert j; decide)), sm109.wide (by decide)⟩

set_option maxRecDepth 100000 in
set_option maxHeartbeats 4000000 in
theorem c_padsN2 {G : GT} {h : List PE} {n td : Nat} {dy : Nat → Int32} {rc : Nat → Nat → Int32} {ct : Nat → Nat × Nat × Nat × Nat} {fk br t : Int32} {th ar hh : Int32} {b : Nat} (hfa : FaR h n td fk br) (hbk : BkR h n dy rc ct) (hn : n ≤ 20) (hcu : CuR h) (W : WFk (curR n dy rc t) (curC n dy ct t)) {tn : Nat} {tv : Nat → Nat} (hTp : TpR h tn tv) (htn : tn ≤ 640) (htv : ∀ j, j < tn → tv j < 256) {pk : Nat → Int32} (hpc : PcR h pk) (hs : bT (curC n dy ct t) th) (hb : b < (curC n dy ct t).2.2.1) : CT G mX11_pads 4 90 [.ref 3, .int th, .int (nI b), .int ar, .int hh, .int t] h (fun o => o.1 = some (.int (spPdA (curR n dy rc t) (curC n dy ct t) th (nI b) ar hh tn tv)) ∧ TpR o.2 0 tv ∧ CuR o.2 ∧ PcR o.2 (spPdK (curR n dy rc t) (curC n dy ct t) th (nI b) ar hh tn tv pk) ∧ Sm [4, 21, 22, 23, 24, 25, 26, 27, 28, 29, 30, 31] h o.2) := by
  obtain ⟨zb, bq, ab, day, f15, hd, hab, hB⟩ := hbk.cur t
  obtain ⟨hb0, b1, b2, b3, b4, fq, tq, bq2, dq, zf, zt, zb2, zd, ln, q1, q2, q3, q4, q5, r0, r1, r2, r3, r4, k1, k2, k3, k4⟩ := id hB
  have f3 : h[3]? = some (cO 11 [.ref 4, .ref 6, .ref 15, .ref 16, .ref 21, .ref 25, .ref 32, .ref 35, .int (nI n), .int (nI td), .int fk, .int br]) := hfa
  obtain ⟨tb, f4, f5, e5⟩ := id hTp
  have sm4 : Sm [4] h h := Sm.rf
  obtain ⟨kn, z1, z2, z3, z4, z5, z6, f25, f26, f27, f28, f29, f30, f31, e31⟩ := id hpc
  show X (NF G) G mX11_pads 4 90 0 [(0, .ref 3), (1, .int th), (2, .int (nI b)), (3, .int ar), (4, .int hh), (5, .int t)] [] h _
  refine x_aload_n dX11_pads_0 0 rfl ?_
  refine x_iload dX11_pads_1 5 rfl ?_
  refine x_callV (rf' := 1) (rl' := 21) [.int t] [] dX11_pads_3 vX11_95 Y_X11_asOf f3 (by decide) rfl rfl (Nat.le_of_ble_eq_true rfl) (Nat.le_of_ble_eq_true rfl) (by decide) (by decide) (c_asOf hfa f15 hn hd) (fun _ _ e1 => ?_)
  cases e1
  rw [hab]
  refine x_astore (lv2 := [(6, .ref ab), (0, .ref 3), (1, .int th), (2, .int (nI b)), (3, .int ar), (4, .int hh), (5, .int t)]) dX11_pads_6 (by decide) rfl ?_
  refine x_aload dX11_pads_8 0 rfl ?_
  refine x_iload_n dX11_pads_10 2 rfl ?_
  refine x_callV (rf' := 0) (rl' := 0) [.int th] [] dX11_pads_11 vX11_155 Y_X0_thingAt r0 (by omega) rfl rfl (Nat.le_of_ble_eq_true rfl) (Nat.le_of_ble_eq_true rfl) (by decide) (by decide) (c_thingAtN r0 (by omega) hs) (fun _ _ e1 => ?_)
  cases e1
  refine x_astoreN (lv2 := [(7, .null), (6, .ref ab), (0, .ref 3), (1, .int th), (2, .int (nI b)), (3, .int ar), (4, .int hh), (5, .int t)]) dX11_pads_14 (by decide) rfl ?_
  refine x_aload dX11_pads_16 1 rfl ?_
  refine x_iload_n dX11_pads_18 4 rfl ?_
  refine x_callV (rf' := 0) (rl' := 0) [.int (nI b)] [] dX11_pads_19 vX11_190 Y_X0_boxAt r0 (by omega) rfl rfl (Nat.le_of_ble_eq_true rfl) (Nat.le_of_ble_eq_true rfl) (by decide) (by decide) (c_boxAtS r0 r3 (by omega) (by omega) W.2.2.2.2.2.1 hb (k3 b hb).1) (fun _ _ e1 => ?_)
  cases e1
  refine x_astore (lv2 := [(8, .ref (bq2 b)), (7, .null), (6, .ref ab), (0, .ref 3), (1, .int th), (2, .int (nI b)), (3, .int ar), (4, .int hh), (5, .int t)]) dX11_pads_22 (by decide) rfl ?_
  refine x_bipush (v := (-2)) dX11_pads_24 (by decide) ?_
  refine x_istore (lv2 := [(9, .int (-2)), (8, .ref (bq2 b)), (7, .null), (6, .ref ab), (0, .ref 3), (1, .int th), (2, .int (nI b)), (3, .int ar), (4, .int hh), (5, .int t)]) dX11_pads_26 (by decide) rfl ?_
  refine x_aloadN dX11_pads_28 2 rfl ?_
  refine x_ifnullN (tgt := 138) dX11_pads_30 (by decide) ?_
  refine x_aload_n dX11_pads_138 4 rfl ?_
  refine x_get (v := .ref 4) dX11_pads_139 fX11_10 f3 (by decide) rfl ?_
  refine x_iconst (v := 0) dX11_pads_142 (by decide) ?_
  refine x_put (fs2 := [.ref 5, .int 0]) dX11_pads_143 fX11_72 (Or.inl rfl) f4 (by decide) rfl rfl (Nat.le_of_ble_eq_true rfl) rfl (fun h101 a102 e103 l104 s105 => ?_)
  have f106 := (e103 3 (by decide)).trans f3
  have f107 := (e103 25 (by decide)).trans f25
  have f108 := (e103 ab (by omega)).trans r0
  have sm109 := Sm.put sm4 e103 l104 s105 (by decide)
  refine x_iload dX11_pads_146 0 rfl ?_
  exact x_iret dX11_pads_148 rfl ⟨by rw [spPdA, if_pos (Or.inl hs)], ⟨tb, a102, sm109.at f5 (by decide), fun j hj => absurd hj (Nat.not_lt_zero j)⟩, hcu.kept (fun j hj => sm109.2.2 j (by revert j; decide)), by unfold spPdK; rw [if_pos (Or.inl hs)]; exact hpc.kept (fun j hj => sm109.2.2 j (by revert j; decide)), sm109.wide (by decide)⟩

set_option maxRecDepth 100000 in
set_option maxHeartbeats 4000000 in
theorem c_padsN3 {G : GT} {h : List PE} {n td : Nat} {dy : Nat → Int32} {rc : Nat → Nat → Int32} {ct : Nat → Nat × Nat × Nat × Nat} {fk br t : Int32} {bx ar hh : Int32} {k : Nat} (hfa : FaR h n td fk br) (hbk : BkR h n dy rc ct) (hn : n ≤ 20) (hcu : CuR h) (W : WFk (curR n dy rc t) (curC n dy ct t)) {tn : Nat} {tv : Nat → Nat} (hTp : TpR h tn tv) (htn : tn ≤ 640) (htv : ∀ j, j < tn → tv j < 256) {pk : Nat → Int32} (hpc : PcR h pk) (hk : k < (curC n dy ct t).2.1) (hsb : bB (curC n dy ct t) bx) : CT G mX11_pads 4 90 [.ref 3, .int (nI k), .int bx, .int ar, .int hh, .int t] h (fun o => o.1 = some (.int (spPdA (curR n dy rc t) (curC n dy ct t) (nI k) bx ar hh tn tv)) ∧ TpR o.2 0 tv ∧ CuR o.2 ∧ PcR o.2 (spPdK (curR n dy rc t) (curC n dy ct t) (nI k) bx ar hh tn tv pk) ∧ Sm [4, 21, 22, 23, 24, 25, 26, 27, 28, 29, 30, 31] h o.2) := by
  obtain ⟨zb, bq, ab, day, f15, hd, hab, hB⟩ := hbk.cur t
  obtain ⟨hb0, b1, b2, b3, b4, fq, tq, bq2, dq, zf, zt, zb2, zd, ln, q1, q2, q3, q4, q5, r0, r1, r2, r3, r4, k1, k2, k3, k4⟩ := id hB
  have f3 : h[3]? = some (cO 11 [.ref 4, .ref 6, .ref 15, .ref 16, .ref 21, .ref 25, .ref 32, .ref 35, .int (nI n), .int (nI td), .int fk, .int br]) := hfa
  obtain ⟨tb, f4, f5, e5⟩ := id hTp
  have sm4 : Sm [4] h h := Sm.rf
  obtain ⟨kn, z1, z2, z3, z4, z5, z6, f25, f26, f27, f28, f29, f30, f31, e31⟩ := id hpc
  show X (NF G) G mX11_pads 4 90 0 [(0, .ref 3), (1, .int (nI k)), (2, .int bx), (3, .int ar), (4, .int hh), (5, .int t)] [] h _
  refine x_aload_n dX11_pads_0 0 rfl ?_
  refine x_iload dX11_pads_1 5 rfl ?_
  refine x_callV (rf' := 1) (rl' := 21) [.int t] [] dX11_pads_3 vX11_95 Y_X11_asOf f3 (by decide) rfl rfl (Nat.le_of_ble_eq_true rfl) (Nat.le_of_ble_eq_true rfl) (by decide) (by decide) (c_asOf hfa f15 hn hd) (fun _ _ e1 => ?_)
  cases e1
  rw [hab]
  refine x_astore (lv2 := [(6, .ref ab), (0, .ref 3), (1, .int (nI k)), (2, .int bx), (3, .int ar), (4, .int hh), (5, .int t)]) dX11_pads_6 (by decide) rfl ?_
  refine x_aload dX11_pads_8 0 rfl ?_
  refine x_iload_n dX11_pads_10 2 rfl ?_
  refine x_callV (rf' := 0) (rl' := 0) [.int (nI k)] [] dX11_pads_11 vX11_155 Y_X0_thingAt r0 (by omega) rfl rfl (Nat.le_of_ble_eq_true rfl) (Nat.le_of_ble_eq_true rfl) (by decide) (by decide) (c_thingAtS r0 r2 (by omega) (by omega) W.2.2.2.1 hk (k2 k hk).1) (fun _ _ e1 => ?_)
  cases e1
  refine x_astore (lv2 := [(7, .ref (tq k)), (6, .ref ab), (0, .ref 3), (1, .int (nI k)), (2, .int bx), (3, .int ar), (4, .int hh), (5, .int t)]) dX11_pads_14 (by decide) rfl ?_
  refine x_aload dX11_pads_16 1 rfl ?_
  refine x_iload_n dX11_pads_18 4 rfl ?_
  refine x_callV (rf' := 0) (rl' := 0) [.int bx] [] dX11_pads_19 vX11_190 Y_X0_boxAt r0 (by omega) rfl rfl (Nat.le_of_ble_eq_true rfl) (Nat.le_of_ble_eq_true rfl) (by decide) (by decide) (c_boxAtN r0 (by omega) hsb) (fun _ _ e1 => ?_)
  cases e1
  refine x_astoreN (lv2 := [(8, .null), (7, .ref (tq k)), (6, .ref ab), (0, .ref 3), (1, .int (nI k)), (2, .int bx), (3, .int ar), (4, .int hh), (5, .int t)]) dX11_pads_22 (by decide) rfl ?_
  refine x_bipush (v := (-2)) dX11_pads_24 (by decide) ?_
  refine x_istore (lv2 := [(9, .int (-2)), (8, .null), (7, .ref (tq k)), (6, .ref ab), (0, .ref 3), (1, .int (nI k)), (2, .int bx), (3, .int ar), (4, .int hh), (5, .int t)]) dX11_pads_26 (by decide) rfl ?_
  refine x_aload dX11_pads_28 2 rfl ?_
  refine x_ifnull dX11_pads_30 ?_
  refine x_aloadN dX11_pads_33 1 rfl ?_
  refine x_ifnullN (tgt := 138) dX11_pads_35 (by decide) ?_
  refine x_aload_n dX11_pads_138 4 rfl ?_
  refine x_get (v := .ref 4) dX11_pads_139 fX11_10 f3 (by decide) rfl ?_
  refine x_iconst (v := 0) dX11_pads_142 (by decide) ?_
  refine x_put (fs2 := [.ref 5, .int 0]) dX11_pads_143 fX11_72 (Or.inl rfl) f4 (by decide) rfl rfl (Nat.le_of_ble_eq_true rfl) rfl (fun h101 a102 e103 l104 s105 => ?_)
  have f106 := (e103 3 (by decide)).trans f3
  have f107 := (e103 25 (by decide)).trans f25
  have f108 := (e103 ab (by omega)).trans r0
  have sm109 := Sm.put sm4 e103 l104 s105 (by decide)
  refine x_iload dX11_pads_146 0 rfl ?_
  exact x_iret dX11_pads_148 rfl ⟨by rw [spPdA, if_pos (Or.inr (Or.inl hsb))], ⟨tb, a102, sm109.at f5 (by decide), fun j hj => absurd hj (Nat.not_lt_zero j)⟩, hcu.kept (fun j hj => sm109.2.2 j (by revert j; decide)), by unfold spPdK; rw [if_pos (Or.inr (Or.inl hsb))]; exact hpc.kept (fun j hj => sm109.2.2 j (by revert j; decide)), sm109.wide (by decide)⟩

set_option maxRecDepth 100000 in
set_option maxHeartbeats 4000000 in
theorem c_padsS {G : GT} {h : List PE} {n td : Nat} {dy : Nat → Int32} {rc : Nat → Nat → Int32} {ct : Nat → Nat × Nat × Nat × Nat} {fk br t : Int32} {ar hh : Int32} {k b : Nat} (hfa : FaR h n td fk br) (hbk : BkR h n dy rc ct) (hn : n ≤ 20) (hcu : CuR h) (W : WFk (curR n dy rc t) (curC n dy ct t)) {tn : Nat} {tv : Nat → Nat} (hTp : TpR h tn tv) (htn : tn ≤ 640) (htv : ∀ j, j < tn → tv j < 256) {pk : Nat → Int32} (hpc : PcR h pk) (hk : k < (curC n dy ct t).2.1) (hb : b < (curC n dy ct t).2.2.1) : CT G mX11_pads 4 90 [.ref 3, .int (nI k), .int (nI b), .int ar, .int hh, .int t] h (fun o => o.1 = some (.int (spPdA (curR n dy rc t) (curC n dy ct t) (nI k) (nI b) ar hh tn tv)) ∧ TpR o.2 0 tv ∧ CuR o.2 ∧ PcR o.2 (spPdK (curR n dy rc t) (curC n dy ct t) (nI k) (nI b) ar hh tn tv pk) ∧ Sm [4, 21, 22, 23, 24, 25, 26, 27, 28, 29, 30, 31] h o.2) := by
  obtain ⟨zb, bq, ab, day, f15, hd, hab, hB⟩ := hbk.cur t
  obtain ⟨hb0, b1, b2, b3, b4, fq, tq, bq2, dq, zf, zt, zb2, zd, ln, q1, q2, q3, q4, q5, r0, r1, r2, r3, r4, k1, k2, k3, k4⟩ := id hB
  have f3 : h[3]? = some (cO 11 [.ref 4, .ref 6, .ref 15, .ref 16, .ref 21, .ref 25, .ref 32, .ref 35, .int (nI n), .int (nI td), .int fk, .int br]) := hfa
  obtain ⟨tb, f4, f5, e5⟩ := id hTp
  have sm4 : Sm [4] h h := Sm.rf
  obtain ⟨kn, z1, z2, z3, z4, z5, z6, f25, f26, f27, f28, f29, f30, f31, e31⟩ := id hpc
  have w4 := W.2.2.2.1
  have w6 := W.2.2.2.2.2.1
  have ck : (nI k).toNatClampNeg = k := nI_clamp (by omega)
  have cb : (nI b).toNatClampNeg = b := nI_clamp (by omega)
  have htk := (k2 k hk).2.1
  have hbk2 := (k3 b hb).2.1
  have nb1 : ¬ bT (curC n dy ct t) (nI k) := fun q => q.elim (nI_pos (by omega)) (fun q => absurd ((nI_leI (by omega) (by omega)).mp q) (by omega))
  have nb3 : ¬ bB (curC n dy ct t) (nI b) := fun q => q.elim (nI_pos (by omega)) (fun q => absurd ((nI_leI (by omega) (by omega)).mp q) (by omega))
  show X (NF G) G mX11_pads 4 90 0 [(0, .ref 3), (1, .int (nI k)), (2, .int (nI b)), (3, .int ar), (4, .int hh), (5, .int t)] [] h _
  refine x_aload_n dX11_pads_0 0 rfl ?_
  refine x_iload dX11_pads_1 5 rfl ?_
  refine x_callV (rf' := 1) (rl' := 21) [.int t] [] dX11_pads_3 vX11_95 Y_X11_asOf f3 (by decide) rfl rfl (Nat.le_of_ble_eq_true rfl) (Nat.le_of_ble_eq_true rfl) (by decide) (by decide) (c_asOf hfa f15 hn hd) (fun _ _ e1 => ?_)
  cases e1
  rw [hab]
  refine x_astore (lv2 := [(6, .ref ab), (0, .ref 3), (1, .int (nI k)), (2, .int (nI b)), (3, .int ar), (4, .int hh), (5, .int t)]) dX11_pads_6 (by decide) rfl ?_
  refine x_aload dX11_pads_8 0 rfl ?_
  refine x_iload_n dX11_pads_10 2 rfl ?_
  refine x_callV (rf' := 0) (rl' := 0) [.int (nI k)] [] dX11_pads_11 vX11_155 Y_X0_thingAt r0 (by omega) rfl rfl (Nat.le_of_ble_eq_true rfl) (Nat.le_of_ble_eq_true rfl) (by decide) (by decide) (c_thingAtS r0 r2 (by omega) (by omega) W.2.2.2.1 hk (k2 k hk).1) (fun _ _ e1 => ?_)
  cases e1
  refine x_astore (lv2 := [(7, .ref (tq k)), (6, .ref ab), (0, .ref 3), (1, .int (nI k)), (2, .int (nI b)), (3, .int ar), (4, .int hh), (5, .int t)]) dX11_pads_14 (by decide) rfl ?_
  refine x_aload dX11_pads_16 1 rfl ?_
  refine x_iload_n dX11_pads_18 4 rfl ?_
  refine x_callV (rf' := 0) (rl' := 0) [.int (nI b)] [] dX11_pads_19 vX11_190 Y_X0_boxAt r0 (by omega) rfl rfl (Nat.le_of_ble_eq_true rfl) (Nat.le_of_ble_eq_true rfl) (by decide) (by decide) (c_boxAtS r0 r3 (by omega) (by omega) W.2.2.2.2.2.1 hb (k3 b hb).1) (fun _ _ e1 => ?_)
  cases e1
  refine x_astore (lv2 := [(8, .ref (bq2 b)), (7, .ref (tq k)), (6, .ref ab), (0, .ref 3), (1, .int (nI k)), (2, .int (nI b)), (3, .int ar), (4, .int hh), (5, .int t)]) dX11_pads_22 (by decide) rfl ?_
  refine x_bipush (v := (-2)) dX11_pads_24 (by decide) ?_
  refine x_istore (lv2 := [(9, .int (-2)), (8, .ref (bq2 b)), (7, .ref (tq k)), (6, .ref ab), (0, .ref 3), (1, .int (nI k)), (2, .int (nI b)), (3, .int ar), (4, .int hh), (5, .int t)]) dX11_pads_26 (by decide) rfl ?_
  refine x_aload dX11_pads_28 2 rfl ?_
  refine x_ifnull dX11_pads_30 ?_
  refine x_aload dX11_pads_33 1 rfl ?_
  refine x_ifnull dX11_pads_35 ?_
  refine x_iload_n dX11_pads_38 7 rfl ?_
  refine x_iconst (v := 1) dX11_pads_39 (by decide) ?_
  refine x_icmp_lt (tgt := 138) dX11_pads_40 (by decide) (fun c_40 => ?_) (fun c_40 => ?_)
  · refine x_aload_n dX11_pads_138 4 rfl ?_
    refine x_get (v := .ref 4) dX11_pads_139 fX11_10 f3 (by decide) rfl ?_
    refine x_iconst (v := 0) dX11_pads_142 (by decide) ?_
    refine x_put (fs2 := [.ref 5, .int 0]) dX11_pads_143 fX11_72 (Or.inl rfl) f4 (by decide) rfl rfl (Nat.le_of_ble_eq_true rfl) rfl (fun h101 a102 e103 l104 s105 => ?_)
    have f106 := (e103 3 (by decide)).trans f3
    have f107 := (e103 25 (by decide)).trans f25
    have f108 := (e103 ab (by omega)).trans r0
    have sm109 := Sm.put sm4 e103 l104 s105 (by decide)
    refine x_iload dX11_pads_146 0 rfl ?_
    exact x_iret dX11_pads_148 rfl ⟨by rw [spPdA, if_pos (Or.inr (Or.inr (Or.inl (Or.inl c_40))))], ⟨tb, a102, sm109.at f5 (by decide), fun j hj => absurd hj (Nat.not_lt_zero j)⟩, hcu.kept (fun j hj => sm109.2.2 j (by revert j; decide)), by unfold spPdK; rw [if_pos (Or.inr (Or.inr (Or.inl (Or.inl c_40))))]; exact hpc.kept (fun j hj => sm109.2.2 j (by revert j; decide)), sm109.wide (by decide)⟩
  · refine x_iload_n dX11_pads_43 7 rfl ?_
    refine x_sipush (v := 2000) dX11_pads_44 (by decide) ?_
    refine x_icmp_gt (tgt := 138) dX11_pads_47 (by decide) (fun c_47 => ?_) (fun c_47 => ?_)
    · refine x_aload_n dX11_pads_138 4 rfl ?_
      refine x_get (v := .ref 4) dX11_pads_139 fX11_10 f3 (by decide) rfl ?_
      refine x_iconst (v := 0) dX11_pads_142 (by decide) ?_
      refine x_put (fs2 := [.ref 5, .int 0]) dX11_pads_143 fX11_72 (Or.inl rfl) f4 (by decide) rfl rfl (Nat.le_of_ble_eq_true rfl) rfl (fun h110 a111 e112 l113 s114 => ?_)
      have f115 := (e112 3 (by decide)).trans f3
      have f116 := (e112 25 (by decide)).trans f25
      have f117 := (e112 ab (by omega)).trans r0
      have sm118 := Sm.put sm4 e112 l113 s114 (by decide)
      refine x_iload dX11_pads_146 0 rfl ?_
      exact x_iret dX11_pads_148 rfl ⟨by rw [spPdA, if_pos (Or.inr (Or.inr (Or.inl (Or.inr c_47))))], ⟨tb, a111, sm118.at f5 (by decide), fun j hj => absurd hj (Nat.not_lt_zero j)⟩, hcu.kept (fun j hj => sm118.2.2 j (by revert j; decide)), by unfold spPdK; rw [if_pos (Or.inr (Or.inr (Or.inl (Or.inr c_47))))]; exact hpc.kept (fun j hj => sm118.2.2 j (by revert j; decide)), sm118.wide (by decide)⟩
    · refine x_iload dX11_pads_50 8 rfl ?_
      refine x_callS (rf' := 0) (rl' := 0) [.int hh] [] dX11_pads_52 vX11_129 Y_X11_isHeight rfl rfl (Nat.le_of_ble_eq_true rfl) (Nat.le_of_ble_eq_true rfl) (by decide) (by decide) c_isHeight (fun _ _ e119 => ?_)
      cases e119
      by_cases hH : bH hh
      · rw [if_pos hH]
        refine x_if_eq (tgt := 138) dX11_pads_55 (by decide) (fun c_55 => ?_) (fun c_55 => absurd (by decide) c_55)
        refine x_aload_n dX11_pads_138 4 rfl ?_
        refine x_get (v := .ref 4) dX11_pads_139 fX11_10 f3 (by decide) rfl ?_
        refine x_iconst (v := 0) dX11_pads_142 (by decide) ?_
        refine x_put (fs2 := [.ref 5, .int 0]) dX11_pads_143 fX11_72 (Or.inl rfl) f4 (by decide) rfl rfl (Nat.le_of_ble_eq_true rfl) rfl (fun h120 a121 e122 l123 s124 => ?_)
        have f125 := (e122 3 (by decide)).trans f3
        have f126 := (e122 25 (by decide)).trans f25
        have f127 := (e122 ab (by omega)).trans r0
        have sm128 := Sm.put sm4 e122 l123 s124 (by decide)
        refine x_iload dX11_pads_146 0 rfl ?_
        exact x_iret dX11_pads_148 rfl ⟨by rw [spPdA, if_pos (Or.inr (Or.inr (Or.inr (Or.inl hH))))], ⟨tb, a121, sm128.at f5 (by decide), fun j hj => absurd hj (Nat.not_lt_zero j)⟩, hcu.kept (fun j hj => sm128.2.2 j (by revert j; decide)), by unfold spPdK; rw [if_pos (Or.inr (Or.inr (Or.inr (Or.inl hH))))]; exact hpc.kept (fun j hj => sm128.2.2 j (by revert j; decide)), sm128.wide (by decide)⟩
      · rw [if_neg hH]
        refine x_if_eq (tgt := 138) dX11_pads_55 (by decide) (fun c_55 => absurd c_55 (by decide)) (fun c_55 => ?_)
        refine x_aload_n dX11_pads_58 4 rfl ?_
        refine x_get (v := .ref 25) dX11_pads_59 fX11_44 f3 (by decide) rfl ?_
        refine x_aload_n dX11_pads_62 4 rfl ?_
        refine x_get (v := .ref 4) dX11_pads_63 fX11_10 f3 (by decide) rfl ?_
        refine x_aload dX11_pads_66 3 rfl ?_
        have hFk : ∀ i, i < (curC n dy ct t).1 → zf i = some (fq i) ∧ ∃ p q np, 51 ≤ fq i ∧ h[fq i]? = some (cO 6 [.ref p, .ref q, .int np, .int ((curR n dy rc t) (4 + 20 * i + 1)), .int ((curR n dy rc t) (4 + 20 * i + 2))]) := fun i hi => by
          obtain ⟨np, P, U, ke, pr, WF⟩ := W.2.2.2.2.2.2.2.2.1 i hi
          obtain ⟨x0, p, q, g1, g2, x1, x2, x3, -⟩ := (k1 i hi).2 _ WF.canon.1 WF.canon.2.2.1
          exact ⟨(k1 i hi).1, p, q, _, x0, x3⟩
        refine x_callV (rf' := 1) (rl' := 21) [.ref 4, .ref ab] [] dX11_pads_68 vX11_194 Y_X7_readKinds f25 (by decide) rfl rfl (Nat.le_of_ble_eq_true rfl) (Nat.le_of_ble_eq_true rfl) (by decide) (by decide) (c_readKinds hTp htn htv r0 r1 (by omega) (by omega) W.2.1 hFk f25 f26 f27 f28) (fun r h1 x1 => ?_)
        obtain ⟨sm1, kn1, y1, y2, y3, g25, g26, g27, g28, x0, x2⟩ := x1
        cases x0
        by_cases hK : kdsOk (curC n dy ct t).1 tn tv
        · rw [if_pos hK]
          have g3 := sm1.at f3 (by decide)
          have g4 := sm1.at f4 (by decide)
          have sm5 : Sm [4] h1 h1 := Sm.rf
          obtain ⟨rfl, hA⟩ := x2 hK
          refine x_if_eq (tgt := 138) dX11_pads_71 (by decide) (fun c_71 => absurd c_71 (by decide)) (fun c_71 => ?_)
          refine x_iconst (v := 0) dX11_pads_74 (by decide) ?_
          refine x_istore (lv2 := [(10, .int 0), (9, .int (-2)), (8, .ref (bq2 b)), (7, .ref (tq k)), (6, .ref ab), (0, .ref 3), (1, .int (nI k)), (2, .int (nI b)), (3, .int ar), (4, .int hh), (5, .int t)]) dX11_pads_75 (by decide) rfl ?_
          obtain ⟨an, ha, rfl⟩ := ix_le (m := 2000) (by decide) (x := ar) (fun q => q.elim (fun z => c_40 (Int32.lt_trans z (by decide))) c_47)
          have hTk := (k2 k hk).2.kept (fun i z hi hz => sm1.at hz (by simp; omega))
          have hXb := (k3 b hb).2.kept (fun i z hi hz => sm1.at hz (by simp; omega))
          refine x_perm [0, 5, 8, 9, 4, 3, 2] rfl ?_
          refine l_padsK W hk ha g3 hK (sm1.at r0 (by simp; omega)) (sm1.at r1 (by simp; omega)) (by omega) (by omega) (fun i hi => ⟨(k1 i hi).1, fun np x1 x2 => ((k1 i hi).2 np x1 x2).kept (fun i z hi hz => sm1.at hz (by simp; omega))⟩) hTk g25 g26 g27 g28 hA (fun h2 y4 sm2 cu2 e29 h4 => ?_) (tn / 2) 0 z4 h1 rfl (by omega) Sm.rf (hcu.kept (fun j hj => sm1.2.2 j (by revert j; decide))) (sm1.at f29 (by decide)) (fun j hj => absurd hj (Nat.not_lt_zero j))
          have m3 := sm2.at g3 (by decide)
          have m4 := sm2.at g4 (by decide)
          have m25 := sm2.at g25 (by decide)
          have m26 := sm2.at g26 (by decide)
          have m27 := sm2.at g27 (by decide)
          have m28 := sm2.at g28 (by decide)
          have m30 := sm2.at (sm1.at f30 (by decide)) (by decide)
          have m31 := sm2.at (sm1.at f31 (by decide)) (by decide)
          have hT2 := hTk.kept (fun i z hi hz => sm2.at hz (by simp; omega))
          have hX2 := hXb.kept (fun i z hi hz => sm2.at hz (by simp; omega))
          refine x_aload_n dX11_pads_125 0 rfl ?_
          refine x_get (v := .ref 25) dX11_pads_126 fX11_44 m3 (by decide) rfl ?_
          refine x_aload dX11_pads_129 1 rfl ?_
          refine x_aload dX11_pads_131 2 rfl ?_
          obtain ⟨u1, u2, u3, u4⟩ := id hK
          refine x_callV (rf' := 1) (rl' := 25) [.ref (tq k), .ref (bq2 b)] [] dX11_pads_133 vX11_209 Y_X7_choose m25 (by decide) rfl rfl (Nat.le_of_ble_eq_true rfl) (Nat.le_of_ble_eq_true rfl) (by decide) (by decide) (c_choose (z1 := y1) (z3 := y3) (K := tn / 2) (ho := kHo (curR n dy rc t) k (nI an) hh tv) (co := kCo (curR n dy rc t) (nI an) tv) (tk := kTk tv) (by omega) (fun q hq => (hA q hq).2.1) (fun q hq => ⟨h4 q hq, by obtain ⟨v1, v2, v3⟩ := kdOk_at _ _ u4 q (by omega) (by omega); exact kCo_ne W ha v1 v3⟩) hT2 hX2 m25 m27 e29 m30 m31) (fun r h3 x1 => ?_)
          obtain ⟨sm3, y5, y6, n30, n31, x3⟩ := x1
          have nbad : ¬ bPd (curC n dy ct t) (nI k) (nI b) (nI an) hh tn tv := fun q => q.elim nb1 (fun q => q.elim nb3 (fun q => q.elim (fun q => q.elim c_40 c_47) (fun q => q.elim hH (fun q => q hK))))
          have eR : (fun a => pjR (kHo (curR n dy rc t) k (nI an) hh tv) (kCo (curR n dy rc t) (nI an) tv) (kTk tv) (tn / 2) ((curR n dy rc t) (356 + 6 * b + a) - (curR n dy rc t) (164 + 24 * k + 1 + a))) = pdR (curR n dy rc t) k b (nI an) hh tn tv := rfl
          rw [eR] at x3
          have n3 := sm3.at m3 (by decide)
          have n4 := sm3.at m4 (by decide)
          have sm6 : Sm [4] h3 h3 := Sm.rf
          cases eP : spPa (pdR (curR n dy rc t) k b (nI an) hh tn tv) with
          | none =>
            rw [eP] at x3
            obtain ⟨x0, x4⟩ := x3
            cases x0
            refine x_istore (lv2 := [(9, .int (-1)), (0, .ref 3), (7, .ref (tq k)), (8, .ref (bq2 b))]) dX11_pads_136 (by decide) rfl ?_
            refine x_aload_n dX11_pads_138 1 rfl ?_
            refine x_get (v := .ref 4) dX11_pads_139 fX11_10 n3 (by decide) rfl ?_
            refine x_iconst (v := 0) dX11_pads_142 (by decide) ?_
            refine x_put (fs2 := [.ref 5, .int 0]) dX11_pads_143 fX11_72 (Or.inl rfl) n4 (by decide) rfl rfl (Nat.le_of_ble_eq_true rfl) rfl (fun h129 a130 e131 l132 s133 => ?_)
            have f134 := (e131 3 (by decide)).trans n3
            have sm135 := Sm.put sm6 e131 l132 s133 (by decide)
            refine x_iload dX11_pads_146 0 rfl ?_
            exact x_iret dX11_pads_148 rfl ⟨by rw [spPdA, if_neg nbad, ck, cb, eP], ⟨tb, a130, sm135.at (sm3.at (sm2.at (sm1.at f5 (by decide)) (by decide)) (by decide)) (by decide), fun j hj => absurd hj (Nat.not_lt_zero j)⟩, (cu2.kept (fun j hj => sm3.2.2 j (by revert j; decide))).kept (fun j hj => sm135.2.2 j (by revert j; decide)), by unfold spPdK; rw [if_neg nbad, ck, cb, eP]; exact ⟨_, y1, y2, y3, y4, y5, y6, sm135.at (sm3.at m25 (by decide)) (by decide), sm135.at (sm3.at m26 (by decide)) (by decide), sm135.at (sm3.at m27 (by decide)) (by decide), sm135.at (sm3.at m28 (by decide)) (by decide), sm135.at (sm3.at e29 (by decide)) (by decide), sm135.at n30 (by decide), sm135.at n31 (by decide), by rw [x4]; exact e31⟩, (sm1.wide (by decide)).tr ((sm2.wide (by decide)).tr ((sm3.wide (by decide)).tr (sm135.wide (by decide))))⟩
          | some xx =>
            rw [eP] at x3
            obtain ⟨x0, x4⟩ := x3
            cases x0
            refine x_istore (lv2 := [(9, .int xx.1), (0, .ref 3), (7, .ref (tq k)), (8, .ref (bq2 b))]) dX11_pads_136 (by decide) rfl ?_
            refine x_aload_n dX11_pads_138 1 rfl ?_
            refine x_get (v := .ref 4) dX11_pads_139 fX11_10 n3 (by decide) rfl ?_
            refine x_iconst (v := 0) dX11_pads_142 (by decide) ?_
            refine x_put (fs2 := [.ref 5, .int 0]) dX11_pads_143 fX11_72 (Or.inl rfl) n4 (by decide) rfl rfl (Nat.le_of_ble_eq_true rfl) rfl (fun h136 a137 e138 l139 s140 => ?_)
            have f141 := (e138 3 (by decide)).trans n3
            have sm142 := Sm.put sm6 e138 l139 s140 (by decide)
            refine x_iload dX11_pads_146 0 rfl ?_
            exact x_iret dX11_pads_148 rfl ⟨by rw [spPdA, if_neg nbad, ck, cb, eP], ⟨tb, a137, sm142.at (sm3.at (sm2.at (sm1.at f5 (by decide)) (by decide)) (by decide)) (by decide), fun j hj => absurd hj (Nat.not_lt_zero j)⟩, (cu2.kept (fun j hj => sm3.2.2 j (by revert j; decide))).kept (fun j hj => sm142.2.2 j (by revert j; decide)), by unfold spPdK; rw [if_neg nbad, ck, cb, eP]; exact ⟨_, y1, y2, y3, y4, y5, y6, sm142.at (sm3.at m25 (by decide)) (by decide), sm142.at (sm3.at m26 (by decide)) (by decide), sm142.at (sm3.at m27 (by decide)) (by decide), sm142.at (sm3.at m28 (by decide)) (by decide), sm142.at (sm3.at e29 (by decide)) (by decide), sm142.at n30 (by decide), sm142.at n31 (by decide), x4⟩, (sm1.wide (by decide)).tr ((sm2.wide (by decide)).tr ((sm3.wide (by decide)).tr (sm142.wide (by decide))))⟩
        · rw [if_neg hK]
          have g3 := sm1.at f3 (by decide)
          have g4 := sm1.at f4 (by decide)
          have sm5 : Sm [4] h1 h1 := Sm.rf
          refine x_if_eq (tgt := 138) dX11_pads_71 (by decide) (fun c_71 => ?_) (fun c_71 => absurd (by decide) c_71)
          refine x_aload_n dX11_pads_138 4 rfl ?_
          refine x_get (v := .ref 4) dX11_pads_139 fX11_10 g3 (by decide) rfl ?_
          refine x_iconst (v := 0) dX11_pads_142 (by decide) ?_
          refine x_put (fs2 := [.ref 5, .int 0]) dX11_pads_143 fX11_72 (Or.inl rfl) g4 (by decide) rfl rfl (Nat.le_of_ble_eq_true rfl) rfl (fun h143 a144 e145 l146 s147 => ?_)
          have f148 := (e145 3 (by decide)).trans g3
          have sm149 := Sm.put sm5 e145 l146 s147 (by decide)
          refine x_iload dX11_pads_146 0 rfl ?_
          exact x_iret dX11_pads_148 rfl ⟨by rw [spPdA, if_pos (Or.inr (Or.inr (Or.inr (Or.inr hK))))], ⟨tb, a144, sm149.at (sm1.at f5 (by decide)) (by decide), fun j hj => absurd hj (Nat.not_lt_zero j)⟩, (hcu.kept (fun j hj => sm1.2.2 j (by revert j; decide))).kept (fun j hj => sm149.2.2 j (by revert j; decide)), by unfold spPdK; rw [if_pos (Or.inr (Or.inr (Or.inr (Or.inr hK))))]; exact ⟨kn1, y1, y2, y3, z4, z5, z6, sm149.at g25 (by decide), sm149.at g26 (by decide), sm149.at g27 (by decide), sm149.at g28 (by decide), sm149.at (sm1.at f29 (by decide)) (by decide), sm149.at (sm1.at f30 (by decide)) (by decide), sm149.at (sm1.at f31 (by decide)) (by decide), e31⟩, (sm1.wide (by decide)).tr (sm149.wide (by decide))⟩

theorem c_pads {G : GT} {h : List PE} {n td : Nat} {dy : Nat → Int32} {rc : Nat → Nat → Int32} {ct : Nat → Nat × Nat × Nat × Nat} {fk br t : Int32} {th bx ar hh : Int32} (hfa : FaR h n td fk br) (hbk : BkR h n dy rc ct) (hn : n ≤ 20) (hcu : CuR h) (W : WFk (curR n dy rc t) (curC n dy ct t)) {tn : Nat} {tv : Nat → Nat} (hTp : TpR h tn tv) (htn : tn ≤ 640) (htv : ∀ j, j < tn → tv j < 256) {pk : Nat → Int32} (hpc : PcR h pk) : CT G mX11_pads 4 90 [.ref 3, .int th, .int bx, .int ar, .int hh, .int t] h (fun o => o.1 = some (.int (spPdA (curR n dy rc t) (curC n dy ct t) th bx ar hh tn tv)) ∧ TpR o.2 0 tv ∧ CuR o.2 ∧ PcR o.2 (spPdK (curR n dy rc t) (curC n dy ct t) th bx ar hh tn tv pk) ∧ Sm [4, 21, 22, 23, 24, 25, 26, 27, 28, 29, 30, 31] h o.2) := by
  by_cases h1 : bT (curC n dy ct t) th
  · by_cases h2 : bB (curC n dy ct t) bx
    · exact c_padsN1 hfa hbk hn hcu W hTp htn htv hpc h1 h2
    · obtain ⟨b, hb, rfl⟩ := ix_of (by have := W.2.2.2.2.2.1; omega) h2
      exact c_padsN2 hfa hbk hn hcu W hTp htn htv hpc h1 hb
  · obtain ⟨k, hk, rfl⟩ := ix_of (by have := W.2.2.2.1; omega) h1
    by_cases h2 : bB (curC n dy ct t) bx
    · exact c_padsN3 hfa hbk hn hcu W hTp htn htv hpc hk h2
    · obtain ⟨b, hb, rfl⟩ := ix_of (by have := W.2.2.2.2.2.1; omega) h2
      exact c_padsS hfa hbk hn hcu W hTp htn htv hpc hk hb

theorem cl0_kept {h h1 : List PE} {s : ST} (x : CL0 h s) (e : ∀ j, j < 36 → h1[j]? = h[j]?) (hl : 51 ≤ h1.length) (hn : s_n s = 0 := by rfl) : CL h1 s := by
  obtain ⟨hF, hT, hR, hB, hC, hP, hX, hK⟩ := x
  refine ⟨hF.kept (e 3 (by decide)), hT.kept (fun j hj => e j ?_), hR.kept (fun j a b => e j (by omega)), ?_, hC.kept (fun j hj => e j ?_), hP.kept (fun j hj => e j ?_), hX.kept (fun j hj => e j ?_), hK.kept (e 35 (by decide)), hl⟩
  · revert j; decide
  · obtain ⟨zb, bq, q1, -, q3⟩ := hB
    refine ⟨zb, bq, (e 15 (by decide)).trans q1, fun k hk => absurd hk (by rw [hn]; exact Nat.not_lt_zero k), ?_⟩
    obtain ⟨h0, b1, b2, b3, b4, fq, tq, bq, dq, zf, zt, zb, zd, ln, q1, q2, q3, q4, q5, r0, r1, r2, r3, r4, k1, k2, k3, k4⟩ := q3
    have hb : b1 < 36 ∧ b2 < 36 ∧ b3 < 36 ∧ b4 < 36 := by omega
    exact ⟨h0, b1, b2, b3, b4, fq, tq, bq, dq, zf, zt, zb, zd, ln, q1, q2, q3, q4, q5, (e 16 (by decide)).trans r0, (e _ hb.1).trans r1, (e _ hb.2.1).trans r2, (e _ hb.2.2.1).trans r3, (e _ hb.2.2.2).trans r4, fun k hk => absurd hk (Nat.not_lt_zero k), fun k hk => absurd hk (Nat.not_lt_zero k), fun k hk => absurd hk (Nat.not_lt_zero k), fun k hk => absurd hk (Nat.not_lt_zero k)⟩
  · revert j; decide
  · revert j; decide
  · revert j; decide

set_option maxRecDepth 100000 in
set_option maxHeartbeats 4000000 in
theorem law_start {G : GT} {h : List PE} (hL : g_L G ≤ 3584) (hJ : JH G) (hTI : TI G) (hl : h.length = 3) (hs : g_s h ≤ 3584) : X (NF G) G mL_law 8 184 0 [(0, .ref 0)] [] h (fun o => o.1 = some (.int 1) ∧ o.2.length ≤ 51 + 235 * 512 ∧ g_s o.2 ≤ 20000 + 1274 * 512) := by
  have sm0 : Gr 3 [] 0 0 h h := Gr.rf
  refine x_new dL_law_0 nL_8 (fun h101 q102 ea103 a104 e105 l106 s107 => ?_)
  have lm108 := sm0.2.1
  have sm109 := Gr.new sm0 ea103 e105 l106 s107
  have el110 : q102 = 3 := by omega
  subst el110
  refine x_dup dL_law_3 rfl ?_
  refine x_callI (rf' := 7) (rl' := 164) [] [.ref 3] dL_law_4 vL_15 Y_X11_init rfl rfl (Nat.le_of_ble_eq_true rfl) (Nat.le_of_ble_eq_true rfl) (by decide) (by decide) (c_X11_init hTI (by omega) a104) (fun r h111 e112 => ?_)
  obtain ⟨e0, l113, g115, gr114⟩ := e112
  cases e0
  have l113 : h111.length = 36 := l113
  have gr114 : Gr 4 [3] 32 3002 h101 h111 := gr114
  have sm116 := Gr.tr sm109 gr114 (fun x hx hx2 => absurd hx (by have := List.mem_singleton.mp hx2; omega)) (by omega)
  have cl : CL0 h111 s00 := g115
  refine x_astore_n (lv2 := [(1, .ref 3), (0, .ref 0)]) dL_law_7 (by decide) rfl ?_
  refine x_new dL_law_8 nL_16 (fun h117 q118 ea119 a120 e121 l122 s123 => ?_)
  have k124 : ∀ j, j < 36 → h117[j]? = h111[j]? := fun j hj => (e121 j (by omega)).trans (rfl)
  have lm125 := sm116.2.1
  have sm126 := Gr.new sm116 ea119 e121 l122 s123
  have el127 : q118 = 36 := by omega
  subst el127
  refine x_dup dL_law_11 rfl ?_
  refine x_callI (rf' := 1) (rl' := 20) [] [.ref 36] dL_law_12 vL_18 Y_X12_init rfl rfl (Nat.le_of_ble_eq_true rfl) (Nat.le_of_ble_eq_true rfl) (by decide) (by decide) (c_X12_init (by omega) a120) (fun r h128 e129 => ?_)
  obtain ⟨e0, l130, g132, g133, g134, g135, g136, g137, g138, g139, g140, g141, g142, g143, g144, g145, gr131⟩ := e129
  cases e0
  have l130 : h128.length = 50 := l130
  have gr131 : Gr 37 [36] 13 11098 h117 h128 := gr131
  have g132 : h128[36]? = some (cO 12 (MO 0 0 0 0 0 0 0 0 0 0 0 0 0 0 0 0 0 0 0 ((-1)) 0 0)) := g132
  have g133 : h128[37]? = some (cI 640 ((fun _ => 0))) := g133
  have g134 : h128[38]? = some (cI 10164 ((fun _ => 0))) := g134
  have g135 : h128[39]? = some (cI 20 ((fun _ => 0))) := g135
  have g136 : h128[40]? = some (cJ 24 ((fun _ => 0))) := g136
  have g137 : h128[41]? = some (cI 96 ((fun _ => 0))) := g137
  have g138 : h128[42]? = some (cJ 96 ((fun _ => 0))) := g138
  have g139 : h128[43]? = some (cI 6 ((fun _ => 0))) := g139
  have g140 : h128[44]? = some (cI 10 ((fun _ => 0))) := g140
  have g141 : h128[45]? = some (cI 10 ((fun _ => 0))) := g141
  have g142 : h128[46]? = some (cI 10 ((fun _ => 0))) := g142
  have g143 : h128[47]? = some (cI 6 ((fun _ => 0))) := g143
  have g144 : h128[48]? = some (cI 6 ((fun _ => 0))) := g144
  have g145 : h128[49]? = some (cZ 10 ((fun _ => 0))) := g145
  have sm146 := Gr.tr sm126 gr131 (fun x hx hx2 => absurd hx (by have := List.mem_singleton.mp hx2; omega)) (by omega)
  have k147 : ∀ j, j < 36 → h128[j]? = h111[j]? := fun j hj => (gr131.1 j (by omega) (by simp; omega)).trans (k124 j hj)
  refine x_astore_n (lv2 := [(2, .ref 36), (1, .ref 3), (0, .ref 0)]) dL_law_15 (by decide) rfl ?_
  refine x_iconst (v := 1) dL_law_16 (by decide) ?_
  refine x_newa (t := 1) (N := 1) (ty := .long) (x := (1, .inr (.inl (fun _ => 0)))) dL_law_17 rfl rfl (by simp) ac_long (fun _ => rfl) rfl (by decide) (by decide) (by decide) (fun h148 q149 ea150 a151 e152 l153 s154 => ?_)
  have k155 : ∀ j, j < 36 → h148[j]? = h111[j]? := fun j hj => (e152 j (by omega)).trans (k147 j hj)
  have lm156 := sm146.2.1
  have f157 := (e152 36 (by have := lt_at g132; omega)).trans g132
  have f158 := (e152 37 (by have := lt_at g133; omega)).trans g133
  have f159 := (e152 38 (by have := lt_at g134; omega)).trans g134
  have f160 := (e152 39 (by have := lt_at g135; omega)).trans g135
  have f161 := (e152 40 (by have := lt_at g136; omega)).trans g136
  have f162 := (e152 41 (by have := lt_at g137; omega)).trans g137
  have f163 := (e152 42 (by have := lt_at g138; omega)).trans g138
  have f164 := (e152 43 (by have := lt_at g139; omega)).trans g139
  have f165 := (e152 44 (by have := lt_at g140; omega)).trans g140
  have f166 := (e152 45 (by have := lt_at g141; omega)).trans g141
  have f167 := (e152 46 (by have := lt_at g142; omega)).trans g142
  have f168 := (e152 47 (by have := lt_at g143; omega)).trans g143
  have f169 := (e152 48 (by have := lt_at g144; omega)).trans g144
  have f170 := (e152 49 (by have := lt_at g145; omega)).trans g145
  have sm171 := Gr.new sm146 ea150 e152 l153 s154
  have el172 : q149 = 50 := by omega
  subst el172
  refine x_astore_n (lv2 := [(3, .ref 50), (2, .ref 36), (1, .ref 3), (0, .ref 0)]) dL_law_19 (by decide) rfl ?_
  refine x_iconst (v := 0) dL_law_20 (by decide) ?_
  refine x_istore (lv2 := [(4, .int 0), (3, .ref 50), (2, .ref 36), (1, .ref 3), (0, .ref 0)]) dL_law_21 (by decide) rfl ?_
  refine x_perm (lv2 := [(4, .int (nI (7 * 0))), (0, .ref 0), (1, .ref 3), (2, .ref 36), (3, .ref 50)]) [0, 4, 3, 2, 1] rfl ?_
  have gl := sm171
  have cl9 : CL h148 s00 := cl0_kept cl k155 (by omega)
  have mo9 : MoR h148 s00 := moR f157 f158 f159 f160 f161 f162 f163 f164 f165 f166 f167 f168 f169 f170 (fun j hj => absurd hj (Nat.not_lt_zero j)) (fun k hk => absurd hk (Nat.not_lt_zero k)) (Or.inl ⟨rfl, fun j _ => rfl⟩)
  have ws9 : WS s00 := ⟨by decide, by decide, by decide, fun j hj => absurd hj (Nat.not_lt_zero j), fun k hk => absurd hk (Nat.not_lt_zero k)⟩
  exact l_law hL hJ 512 0 h148 s00 (by decide) (by decide) (by decide) ⟨cl9, mo9, ws9, ⟨_, a151⟩, by omega, by have := gl.2.2.2; omega⟩

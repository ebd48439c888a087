/-- what the making of Tokens does -/
def TI (G : GT) : Prop := ∀ h : List PE, h.length = 8 → h[7]? = some (cO 10 [.null, .null, .null, .null, .int 0, .int 0]) → CT G mX10_init 5 120 [.ref 7] h (fun o => o.1 = none ∧ o.2.length = 12 ∧ o.2[7]? = some (cO 10 [.ref 8, .ref 9, .ref 10, .ref 11, .int 0, .int 0]) ∧ (∃ zr : Nat → Int64, o.2[8]? = some (cJ 17 zr) ∧ ∀ i, i < 17 → zr i = lN (k32 i)) ∧ o.2[9]? = some (cI 600 (fun _ => 0)) ∧ o.2[10]? = some (cI 600 (fun _ => 0)) ∧ o.2[11]? = some (cJ 600 (fun _ => 0)) ∧ Gr 8 [7] 4 1817 h o.2)

set_option maxRecDepth 100000 in
set_option maxHeartbeats 4000000 in
theorem c_X1_init {G : GT} {h : List PE} (hTI : TI G) (hl : h.length = 7) (fq : h[6]? = some (cO 1 [.null, .null, .null, .null, .int 0, .int 0, .int 0, .int 0, .int 0])) : CT G mX1_init 6 144 [.ref 6] h (fun o => o.1 = none ∧ o.2.length = 15 ∧ RdR o.2 ∧ Gr 7 [6] 8 1895 h o.2) := by
  have sm0 : Gr 7 [6] 0 0 h h := Gr.rf
  show X (NF G) G mX1_init 6 144 0 [(0, .ref 6)] [] h _
  refine x_aload_n dX1_init_0 0 rfl ?_
  refine x_objInit dX1_init_1 oX1_5 oI_inst oI_code (by decide) (Nat.le_of_ble_eq_true rfl) ?_
  refine x_aload_n dX1_init_4 0 rfl ?_
  refine x_new dX1_init_5 nX1_11 (fun h101 q102 ea103 a104 e105 l106 s107 => ?_)
  have lm108 := sm0.2.1
  have f109 := (e105 6 (by have := lt_at fq; omega)).trans fq
  have sm110 := Gr.new sm0 ea103 e105 l106 s107
  have el111 : q102 = 7 := by omega
  subst el111
  refine x_dup dX1_init_8 rfl ?_
  refine x_callI (rf' := 5) (rl' := 120) [] [.ref 7, .ref 6] dX1_init_9 vX1_13 Y_X10_init rfl rfl (Nat.le_of_ble_eq_true rfl) (Nat.le_of_ble_eq_true rfl) (by decide) (by decide) (hTI _ (by omega) a104) (fun r h112 e113 => ?_)
  obtain ⟨e0, l114, g116, g117, g118, g119, g120, gr115⟩ := e113
  cases e0
  have l114 : h112.length = 12 := l114
  have gr115 : Gr 8 [7] 4 1817 h101 h112 := gr115
  have f121 := gr115.at f109 (by omega) (by decide)
  have g116 : h112[7]? = some (cO 10 [.ref 8, .ref 9, .ref 10, .ref 11, .int 0, .int 0]) := g116
  have g118 : h112[9]? = some (cI 600 ((fun _ => 0))) := g118
  have g119 : h112[10]? = some (cI 600 ((fun _ => 0))) := g119
  have g120 : h112[11]? = some (cJ 600 ((fun _ => 0))) := g120
  have sm122 := Gr.tr sm110 gr115 (fun x hx hx2 => absurd hx (by have := List.mem_singleton.mp hx2; omega)) (by omega)
  obtain ⟨zr, g117, hzr⟩ := g117
  refine x_put (fs2 := [.ref 7, .null, .null, .null, .int 0, .int 0, .int 0, .int 0, .int 0]) dX1_init_12 fX1_14 (Or.inr ⟨rfl, _, rfl, rfl⟩) f121 (by decide) rfl rfl (Nat.le_of_ble_eq_true rfl) rfl (fun h123 a124 e125 l126 s127 => ?_)
  have f128 := (e125 7 (by decide)).trans g116
  have f129 := (e125 9 (by decide)).trans g118
  have f130 := (e125 10 (by decide)).trans g119
  have f131 := (e125 11 (by decide)).trans g120
  have f132 := (e125 8 (by decide)).trans g117
  have sm133 := Gr.put sm122 e125 l126 s127 (Or.inl (by decide))
  refine x_aload_n dX1_init_15 0 rfl ?_
  refine x_bipush (v := 24) dX1_init_16 (by decide) ?_
  refine x_newa (t := 1) (N := 24) (ty := .long) (x := (24, .inr (.inl (fun _ => 0)))) dX1_init_18 rfl rfl (by simp) ac_long (fun _ => rfl) rfl (by decide) (by decide) (by decide) (fun h134 q135 ea136 a137 e138 l139 s140 => ?_)
  have lm141 := sm133.2.1
  have f142 := (e138 6 (by have := lt_at a124; omega)).trans a124
  have f143 := (e138 7 (by have := lt_at f128; omega)).trans f128
  have f144 := (e138 9 (by have := lt_at f129; omega)).trans f129
  have f145 := (e138 10 (by have := lt_at f130; omega)).trans f130
  have f146 := (e138 11 (by have := lt_at f131; omega)).trans f131
  have f147 := (e138 8 (by have := lt_at f132; omega)).trans f132
  have sm148 := Gr.new sm133 ea136 e138 l139 s140
  have el149 : q135 = 12 := by omega
  subst el149
  refine x_put (fs2 := [.ref 7, .ref 12, .null, .null, .int 0, .int 0, .int 0, .int 0, .int 0]) dX1_init_20 fX1_20 (Or.inr ⟨rfl, _, rfl, rfl⟩) f142 (by decide) rfl rfl (Nat.le_of_ble_eq_true rfl) rfl (fun h150 a151 e152 l153 s154 => ?_)
  have f155 := (e152 7 (by decide)).trans f143
  have f156 := (e152 9 (by decide)).trans f144
  have f157 := (e152 10 (by decide)).trans f145
  have f158 := (e152 11 (by decide)).trans f146
  have f159 := (e152 8 (by decide)).trans f147
  have f160 := (e152 12 (by decide)).trans a137
  have sm161 := Gr.put sm148 e152 l153 s154 (Or.inl (by decide))
  refine x_aload_n dX1_init_23 0 rfl ?_
  refine x_bipush (v := 24) dX1_init_24 (by decide) ?_
  refine x_newa (t := 0) (N := 24) (ty := .int) (x := (24, .inl (fun _ => 0))) dX1_init_26 rfl rfl (by simp) ac_int (fun _ => rfl) rfl (by decide) (by decide) (by decide) (fun h162 q163 ea164 a165 e166 l167 s168 => ?_)
  have lm169 := sm161.2.1
  have f170 := (e166 6 (by have := lt_at a151; omega)).trans a151
  have f171 := (e166 7 (by have := lt_at f155; omega)).trans f155
  have f172 := (e166 9 (by have := lt_at f156; omega)).trans f156
  have f173 := (e166 10 (by have := lt_at f157; omega)).trans f157
  have f174 := (e166 11 (by have := lt_at f158; omega)).trans f158
  have f175 := (e166 8 (by have := lt_at f159; omega)).trans f159
  have f176 := (e166 12 (by have := lt_at f160; omega)).trans f160
  have sm177 := Gr.new sm161 ea164 e166 l167 s168
  have el178 : q163 = 13 := by omega
  subst el178
  refine x_put (fs2 := [.ref 7, .ref 12, .ref 13, .null, .int 0, .int 0, .int 0, .int 0, .int 0]) dX1_init_28 fX1_24 (Or.inr ⟨rfl, _, rfl, rfl⟩) f170 (by decide) rfl rfl (Nat.le_of_ble_eq_true rfl) rfl (fun h179 a180 e181 l182 s183 => ?_)
  have f184 := (e181 7 (by decide)).trans f171
  have f185 := (e181 9 (by decide)).trans f172
  have f186 := (e181 10 (by decide)).trans f173
  have f187 := (e181 11 (by decide)).trans f174
  have f188 := (e181 8 (by decide)).trans f175
  have f189 := (e181 12 (by decide)).trans f176
  have f190 := (e181 13 (by decide)).trans a165
  have sm191 := Gr.put sm177 e181 l182 s183 (Or.inl (by decide))
  refine x_aload_n dX1_init_31 0 rfl ?_
  refine x_bipush (v := 24) dX1_init_32 (by decide) ?_
  refine x_newa (t := 0) (N := 24) (ty := .int) (x := (24, .inl (fun _ => 0))) dX1_init_34 rfl rfl (by simp) ac_int (fun _ => rfl) rfl (by decide) (by decide) (by decide) (fun h192 q193 ea194 a195 e196 l197 s198 => ?_)
  have lm199 := sm191.2.1
  have f200 := (e196 6 (by have := lt_at a180; omega)).trans a180
  have f201 := (e196 7 (by have := lt_at f184; omega)).trans f184
  have f202 := (e196 9 (by have := lt_at f185; omega)).trans f185
  have f203 := (e196 10 (by have := lt_at f186; omega)).trans f186
  have f204 := (e196 11 (by have := lt_at f187; omega)).trans f187
  have f205 := (e196 8 (by have := lt_at f188; omega)).trans f188
  have f206 := (e196 12 (by have := lt_at f189; omega)).trans f189
  have f207 := (e196 13 (by have := lt_at f190; omega)).trans f190
  have sm208 := Gr.new sm191 ea194 e196 l197 s198
  have el209 : q193 = 14 := by omega
  subst el209
  refine x_put (fs2 := [.ref 7, .ref 12, .ref 13, .ref 14, .int 0, .int 0, .int 0, .int 0, .int 0]) dX1_init_36 fX1_28 (Or.inr ⟨rfl, _, rfl, rfl⟩) f200 (by decide) rfl rfl (Nat.le_of_ble_eq_true rfl) rfl (fun h210 a211 e212 l213 s214 => ?_)
  have f215 := (e212 7 (by decide)).trans f201
  have f216 := (e212 9 (by decide)).trans f202
  have f217 := (e212 10 (by decide)).trans f203
  have f218 := (e212 11 (by decide)).trans f204
  have f219 := (e212 8 (by decide)).trans f205
  have f220 := (e212 12 (by decide)).trans f206
  have f221 := (e212 13 (by decide)).trans f207
  have f222 := (e212 14 (by decide)).trans a195
  have sm223 := Gr.put sm208 e212 l213 s214 (Or.inl (by decide))
  refine x_aload_n dX1_init_39 0 rfl ?_
  refine x_iconst (v := 0) dX1_init_40 (by decide) ?_
  refine x_put (fs2 := [.ref 7, .ref 12, .ref 13, .ref 14, .int 0, .int 0, .int 0, .int 0, .int 0]) dX1_init_41 fX1_31 (Or.inl rfl) a211 (by decide) rfl rfl (Nat.le_of_ble_eq_true rfl) rfl (fun h224 a225 e226 l227 s228 => ?_)
  have f229 := (e226 7 (by decide)).trans f215
  have f230 := (e226 9 (by decide)).trans f216
  have f231 := (e226 10 (by decide)).trans f217
  have f232 := (e226 11 (by decide)).trans f218
  have f233 := (e226 8 (by decide)).trans f219
  have f234 := (e226 12 (by decide)).trans f220
  have f235 := (e226 13 (by decide)).trans f221
  have f236 := (e226 14 (by decide)).trans f222
  have sm237 := Gr.put sm223 e226 l227 s228 (Or.inl (by decide))
  refine x_aload_n dX1_init_44 0 rfl ?_
  refine x_iconst (v := 0) dX1_init_45 (by decide) ?_
  refine x_put (fs2 := [.ref 7, .ref 12, .ref 13, .ref 14, .int 0, .int 0, .int 0, .int 0, .int 0]) dX1_init_46 fX1_35 (Or.inl rfl) a225 (by decide) rfl rfl (Nat.le_of_ble_eq_true rfl) rfl (fun h238 a239 e240 l241 s242 => ?_)
  have f243 := (e240 7 (by decide)).trans f229
  have f244 := (e240 9 (by decide)).trans f230
  have f245 := (e240 10 (by decide)).trans f231
  have f246 := (e240 11 (by decide)).trans f232
  have f247 := (e240 8 (by decide)).trans f233
  have f248 := (e240 12 (by decide)).trans f234
  have f249 := (e240 13 (by decide)).trans f235
  have f250 := (e240 14 (by decide)).trans f236
  have sm251 := Gr.put sm237 e240 l241 s242 (Or.inl (by decide))
  refine x_aload_n dX1_init_49 0 rfl ?_
  refine x_iconst (v := 0) dX1_init_50 (by decide) ?_
  refine x_put (fs2 := [.ref 7, .ref 12, .ref 13, .ref 14, .int 0, .int 0, .int 0, .int 0, .int 0]) dX1_init_51 fX1_38 (Or.inl rfl) a239 (by decide) rfl rfl (Nat.le_of_ble_eq_true rfl) rfl (fun h252 a253 e254 l255 s256 => ?_)
  have f257 := (e254 7 (by decide)).trans f243
  have f258 := (e254 9 (by decide)).trans f244
  have f259 := (e254 10 (by decide)).trans f245
  have f260 := (e254 11 (by decide)).trans f246
  have f261 := (e254 8 (by decide)).trans f247
  have f262 := (e254 12 (by decide)).trans f248
  have f263 := (e254 13 (by decide)).trans f249
  have f264 := (e254 14 (by decide)).trans f250
  have sm265 := Gr.put sm251 e254 l255 s256 (Or.inl (by decide))
  refine x_aload_n dX1_init_54 0 rfl ?_
  refine x_iconst (v := 0) dX1_init_55 (by decide) ?_
  refine x_put (fs2 := [.ref 7, .ref 12, .ref 13, .ref 14, .int 0, .int 0, .int 0, .int 0, .int 0]) dX1_init_56 fX1_41 (Or.inl rfl) a253 (by decide) rfl rfl (Nat.le_of_ble_eq_true rfl) rfl (fun h266 a267 e268 l269 s270 => ?_)
  have f271 := (e268 7 (by decide)).trans f257
  have f272 := (e268 9 (by decide)).trans f258
  have f273 := (e268 10 (by decide)).trans f259
  have f274 := (e268 11 (by decide)).trans f260
  have f275 := (e268 8 (by decide)).trans f261
  have f276 := (e268 12 (by decide)).trans f262
  have f277 := (e268 13 (by decide)).trans f263
  have f278 := (e268 14 (by decide)).trans f264
  have sm279 := Gr.put sm265 e268 l269 s270 (Or.inl (by decide))
  refine x_aload_n dX1_init_59 0 rfl ?_
  refine x_iconst (v := 0) dX1_init_60 (by decide) ?_
  refine x_put (fs2 := [.ref 7, .ref 12, .ref 13, .ref 14, .int 0, .int 0, .int 0, .int 0, .int 0]) dX1_init_61 fX1_44 (Or.inl rfl) a267 (by decide) rfl rfl (Nat.le_of_ble_eq_true rfl) rfl (fun h280 a281 e282 l283 s284 => ?_)
  have f285 := (e282 7 (by decide)).trans f271
  have f286 := (e282 9 (by decide)).trans f272
  have f287 := (e282 10 (by decide)).trans f273
  have f288 := (e282 11 (by decide)).trans f274
  have f289 := (e282 8 (by decide)).trans f275
  have f290 := (e282 12 (by decide)).trans f276
  have f291 := (e282 13 (by decide)).trans f277
  have f292 := (e282 14 (by decide)).trans f278
  have sm293 := Gr.put sm279 e282 l283 s284 (Or.inl (by decide))
  exact x_vret dX1_init_64 rfl ⟨rfl, by show h280.length = _; omega, ⟨_, _, _, _, _, _, _, zr, _, _, _, _, _, _, a281, f285, f289, hzr, f286, f287, f288, f290, f291, f292⟩, sm293⟩

/-- the told state of a new one -/
def s00 : ST := (0, 0, 0, fun _ => 0, fun _ => 0, fun _ _ => 0, fun _ => (0, 0, 0, 0), 0, -1, fun _ => -1, 0)
def CL0 (h : List PE) (s : ST) : Prop := FaR h (s_n s) (s_td s) (s_fl s) (s_br s) ∧ TpR h (s_tn s) (s_tv s) ∧ RdR h ∧ BkR h (s_n s) (s_dy s) (s_rc s) (s_ct s) ∧ CuR h ∧ PcR h (s_pk s) ∧ BxR h (s_bs s) ∧ KpR h

set_option maxRecDepth 100000 in
set_option maxHeartbeats 4000000 in
theorem c_X11_init {G : GT} {h : List PE} (hTI : TI G) (hl : h.length = 4) (fq : h[3]? = some (cO 11 [.null, .null, .null, .null, .null, .null, .null, .null, .int 0, .int 0, .int 0, .int 0])) : CT G mX11_init 7 164 [.ref 3] h (fun o => o.1 = none ∧ o.2.length = 36 ∧ CL0 o.2 s00 ∧ Gr 4 [3] 32 3002 h o.2) := by
  have sm0 : Gr 4 [3] 0 0 h h := Gr.rf
  show X (NF G) G mX11_init 7 164 0 [(0, .ref 3)] [] h _
  refine x_aload_n dX11_init_0 0 rfl ?_
  refine x_objInit dX11_init_1 oX11_1 oI_inst oI_code (by decide) (Nat.le_of_ble_eq_true rfl) ?_
  refine x_aload_n dX11_init_4 0 rfl ?_
  refine x_new dX11_init_5 nX11_7 (fun h101 q102 ea103 a104 e105 l106 s107 => ?_)
  have lm108 := sm0.2.1
  have f109 := (e105 3 (by have := lt_at fq; omega)).trans fq
  have sm110 := Gr.new sm0 ea103 e105 l106 s107
  have el111 : q102 = 4 := by omega
  subst el111
  refine x_dup dX11_init_8 rfl ?_
  refine x_callIN (rf' := 1) (rl' := 20) [] [.ref 4, .ref 3] dX11_init_9 vX11_9 Y_X8_init rfl rfl (Nat.le_of_ble_eq_true rfl) (Nat.le_of_ble_eq_true rfl) (by decide) (by decide) (c_X8_init (by omega) a104) (fun r h112 e113 => ?_)
  obtain ⟨e0, l114, g116, g117, gr115⟩ := e113
  cases e0
  have l114 : h112.length = 6 := l114
  have gr115 : Gr 5 [4] 1 640 h101 h112 := gr115
  have f118 := gr115.at f109 (by omega) (by decide)
  have g116 : h112[4]? = some (cO 8 [.ref 5, .int 0]) := g116
  have g117 : h112[5]? = some (cB 640 ((fun _ => 0))) := g117
  have sm119 := Gr.tr sm110 gr115 (fun x hx hx2 => absurd hx (by have := List.mem_singleton.mp hx2; omega)) (by omega)
  refine x_put (fs2 := [.ref 4, .null, .null, .null, .null, .null, .null, .null, .int 0, .int 0, .int 0, .int 0]) dX11_init_12 fX11_10 (Or.inr ⟨rfl, _, rfl, rfl⟩) f118 (by decide) rfl rfl (Nat.le_of_ble_eq_true rfl) rfl (fun h120 a121 e122 l123 s124 => ?_)
  have f125 := (e122 4 (by decide)).trans g116
  have f126 := (e122 5 (by decide)).trans g117
  have sm127 := Gr.put sm119 e122 l123 s124 (Or.inl (by decide))
  refine x_aload_n dX11_init_15 0 rfl ?_
  refine x_new dX11_init_16 nX11_16 (fun h128 q129 ea130 a131 e132 l133 s134 => ?_)
  have lm135 := sm127.2.1
  have f136 := (e132 3 (by have := lt_at a121; omega)).trans a121
  have f137 := (e132 4 (by have := lt_at f125; omega)).trans f125
  have f138 := (e132 5 (by have := lt_at f126; omega)).trans f126
  have sm139 := Gr.new sm127 ea130 e132 l133 s134
  have el140 : q129 = 6 := by omega
  subst el140
  refine x_dup dX11_init_19 rfl ?_
  refine x_callIN (rf' := 6) (rl' := 144) [] [.ref 6, .ref 3] dX11_init_20 vX11_18 Y_X1_init rfl rfl (Nat.le_of_ble_eq_true rfl) (Nat.le_of_ble_eq_true rfl) (by decide) (by decide) (c_X1_init hTI (by omega) a131) (fun r h141 e142 => ?_)
  obtain ⟨e0, l143, g145, gr144⟩ := e142
  cases e0
  have l143 : h141.length = 15 := l143
  have gr144 : Gr 7 [6] 8 1895 h128 h141 := gr144
  have f146 := gr144.at f136 (by omega) (by decide)
  have f147 := gr144.at f137 (by omega) (by decide)
  have f148 := gr144.at f138 (by omega) (by decide)
  have sm149 := Gr.tr sm139 gr144 (fun x hx hx2 => absurd hx (by have := List.mem_singleton.mp hx2; omega)) (by omega)
  obtain ⟨nc, at9, v, ft, fk, ln, ep, zr, z9, z10, z11, y12, y13, y14, r6, r7, r8, hr, r9, r10, r11, r12, r13, r14⟩ := g145
  refine x_put (fs2 := [.ref 4, .ref 6, .null, .null, .null, .null, .null, .null, .int 0, .int 0, .int 0, .int 0]) dX11_init_23 fX11_19 (Or.inr ⟨rfl, _, rfl, rfl⟩) f146 (by decide) rfl rfl (Nat.le_of_ble_eq_true rfl) rfl (fun h150 a151 e152 l153 s154 => ?_)
  have f155 := (e152 4 (by decide)).trans f147
  have f156 := (e152 5 (by decide)).trans f148
  have f157 := (e152 6 (by decide)).trans r6
  have f158 := (e152 7 (by decide)).trans r7
  have f159 := (e152 8 (by decide)).trans r8
  have f160 := (e152 9 (by decide)).trans r9
  have f161 := (e152 10 (by decide)).trans r10
  have f162 := (e152 11 (by decide)).trans r11
  have f163 := (e152 12 (by decide)).trans r12
  have f164 := (e152 13 (by decide)).trans r13
  have f165 := (e152 14 (by decide)).trans r14
  have sm166 := Gr.put sm149 e152 l153 s154 (Or.inl (by decide))
  refine x_aload_n dX11_init_26 0 rfl ?_
  refine x_bipush (v := 20) dX11_init_27 (by decide) ?_
  refine x_newq (t := 8) (N := 20) dX11_init_29 rfl qX11_23 ao_8 (by decide) (by decide) (by decide) (fun h167 q168 ea169 a170 e171 l172 s173 => ?_)
  have lm174 := sm166.2.1
  have f175 := (e171 3 (by have := lt_at a151; omega)).trans a151
  have f176 := (e171 4 (by have := lt_at f155; omega)).trans f155
  have f177 := (e171 5 (by have := lt_at f156; omega)).trans f156
  have f178 := (e171 6 (by have := lt_at f157; omega)).trans f157
  have f179 := (e171 7 (by have := lt_at f158; omega)).trans f158
  have f180 := (e171 8 (by have := lt_at f159; omega)).trans f159
  have f181 := (e171 9 (by have := lt_at f160; omega)).trans f160
  have f182 := (e171 10 (by have := lt_at f161; omega)).trans f161
  have f183 := (e171 11 (by have := lt_at f162; omega)).trans f162
  have f184 := (e171 12 (by have := lt_at f163; omega)).trans f163
  have f185 := (e171 13 (by have := lt_at f164; omega)).trans f164
  have f186 := (e171 14 (by have := lt_at f165; omega)).trans f165
  have sm187 := Gr.new sm166 ea169 e171 l172 s173
  have el188 : q168 = 15 := by omega
  subst el188
  refine x_put (fs2 := [.ref 4, .ref 6, .ref 15, .null, .null, .null, .null, .null, .int 0, .int 0, .int 0, .int 0]) dX11_init_32 fX11_25 (Or.inr ⟨rfl, _, rfl, rfl⟩) f175 (by decide) rfl rfl (Nat.le_of_ble_eq_true rfl) rfl (fun h189 a190 e191 l192 s193 => ?_)
  have f194 := (e191 4 (by decide)).trans f176
  have f195 := (e191 5 (by decide)).trans f177
  have f196 := (e191 6 (by decide)).trans f178
  have f197 := (e191 7 (by decide)).trans f179
  have f198 := (e191 8 (by decide)).trans f180
  have f199 := (e191 9 (by decide)).trans f181
  have f200 := (e191 10 (by decide)).trans f182
  have f201 := (e191 11 (by decide)).trans f183
  have f202 := (e191 12 (by decide)).trans f184
  have f203 := (e191 13 (by decide)).trans f185
  have f204 := (e191 14 (by decide)).trans f186
  have f205 := (e191 15 (by decide)).trans a170
  have sm206 := Gr.put sm187 e191 l192 s193 (Or.inl (by decide))
  refine x_aload_n dX11_init_35 0 rfl ?_
  refine x_new dX11_init_36 nX11_23 (fun h207 q208 ea209 a210 e211 l212 s213 => ?_)
  have lm214 := sm206.2.1
  have f215 := (e211 3 (by have := lt_at a190; omega)).trans a190
  have f216 := (e211 4 (by have := lt_at f194; omega)).trans f194
  have f217 := (e211 5 (by have := lt_at f195; omega)).trans f195
  have f218 := (e211 6 (by have := lt_at f196; omega)).trans f196
  have f219 := (e211 7 (by have := lt_at f197; omega)).trans f197
  have f220 := (e211 8 (by have := lt_at f198; omega)).trans f198
  have f221 := (e211 9 (by have := lt_at f199; omega)).trans f199
  have f222 := (e211 10 (by have := lt_at f200; omega)).trans f200
  have f223 := (e211 11 (by have := lt_at f201; omega)).trans f201
  have f224 := (e211 12 (by have := lt_at f202; omega)).trans f202
  have f225 := (e211 13 (by have := lt_at f203; omega)).trans f203
  have f226 := (e211 14 (by have := lt_at f204; omega)).trans f204
  have f227 := (e211 15 (by have := lt_at f205; omega)).trans f205
  have sm228 := Gr.new sm206 ea209 e211 l212 s213
  have el229 : q208 = 16 := by omega
  subst el229
  refine x_dup dX11_init_39 rfl ?_
  refine x_callIN (rf' := 1) (rl' := 20) [] [.ref 16, .ref 3] dX11_init_40 vX11_29 Y_X0_init rfl rfl (Nat.le_of_ble_eq_true rfl) (Nat.le_of_ble_eq_true rfl) (by decide) (by decide) (c_X0_init (q := 16) (by decide) (by omega) a210) (fun r h230 e231 => ?_)
  obtain ⟨e0, l232, g234, g235, g236, g237, g238, gr233⟩ := e231
  cases e0
  have l232 : h230.length = 21 := l232
  have gr233 : Gr 16 [] 4 44 h207 h230 := gr233
  have f239 := gr233.at f215 (by omega) (by decide)
  have f240 := gr233.at f216 (by omega) (by decide)
  have f241 := gr233.at f217 (by omega) (by decide)
  have f242 := gr233.at f218 (by omega) (by decide)
  have f243 := gr233.at f219 (by omega) (by decide)
  have f244 := gr233.at f220 (by omega) (by decide)
  have f245 := gr233.at f221 (by omega) (by decide)
  have f246 := gr233.at f222 (by omega) (by decide)
  have f247 := gr233.at f223 (by omega) (by decide)
  have f248 := gr233.at f224 (by omega) (by decide)
  have f249 := gr233.at f225 (by omega) (by decide)
  have f250 := gr233.at f226 (by omega) (by decide)
  have f251 := gr233.at f227 (by omega) (by decide)
  have g234 : h230[16]? = some (cO 0 [.ref 17, .ref 18, .ref 19, .ref 20, .int 0, .int 0, .int 0, .int 0, .int 0, .int 0]) := g234
  have g235 : h230[17]? = some (cR 4 8 ((fun _ => none))) := g235
  have g236 : h230[18]? = some (cR 5 8 ((fun _ => none))) := g236
  have g237 : h230[19]? = some (cR 6 8 ((fun _ => none))) := g237
  have g238 : h230[20]? = some (cR 7 20 ((fun _ => none))) := g238
  have sm252 := Gr.tr sm228 gr233 (by simp) (by omega)
  refine x_put (fs2 := [.ref 4, .ref 6, .ref 15, .ref 16, .null, .null, .null, .null, .int 0, .int 0, .int 0, .int 0]) dX11_init_43 fX11_30 (Or.inr ⟨rfl, _, rfl, rfl⟩) f239 (by decide) rfl rfl (Nat.le_of_ble_eq_true rfl) rfl (fun h253 a254 e255 l256 s257 => ?_)
  have f258 := (e255 4 (by decide)).trans f240
  have f259 := (e255 5 (by decide)).trans f241
  have f260 := (e255 6 (by decide)).trans f242
  have f261 := (e255 7 (by decide)).trans f243
  have f262 := (e255 8 (by decide)).trans f244
  have f263 := (e255 9 (by decide)).trans f245
  have f264 := (e255 10 (by decide)).trans f246
  have f265 := (e255 11 (by decide)).trans f247
  have f266 := (e255 12 (by decide)).trans f248
  have f267 := (e255 13 (by decide)).trans f249
  have f268 := (e255 14 (by decide)).trans f250
  have f269 := (e255 15 (by decide)).trans f251
  have f270 := (e255 16 (by decide)).trans g234
  have f271 := (e255 17 (by decide)).trans g235
  have f272 := (e255 18 (by decide)).trans g236
  have f273 := (e255 19 (by decide)).trans g237
  have f274 := (e255 20 (by decide)).trans g238
  have sm275 := Gr.put sm252 e255 l256 s257 (Or.inl (by decide))
  refine x_aload_n dX11_init_46 0 rfl ?_
  refine x_new dX11_init_47 nX11_34 (fun h276 q277 ea278 a279 e280 l281 s282 => ?_)
  have lm283 := sm275.2.1
  have f284 := (e280 3 (by have := lt_at a254; omega)).trans a254
  have f285 := (e280 4 (by have := lt_at f258; omega)).trans f258
  have f286 := (e280 5 (by have := lt_at f259; omega)).trans f259
  have f287 := (e280 6 (by have := lt_at f260; omega)).trans f260
  have f288 := (e280 7 (by have := lt_at f261; omega)).trans f261
  have f289 := (e280 8 (by have := lt_at f262; omega)).trans f262
  have f290 := (e280 9 (by have := lt_at f263; omega)).trans f263
  have f291 := (e280 10 (by have := lt_at f264; omega)).trans f264
  have f292 := (e280 11 (by have := lt_at f265; omega)).trans f265
  have f293 := (e280 12 (by have := lt_at f266; omega)).trans f266
  have f294 := (e280 13 (by have := lt_at f267; omega)).trans f267
  have f295 := (e280 14 (by have := lt_at f268; omega)).trans f268
  have f296 := (e280 15 (by have := lt_at f269; omega)).trans f269
  have f297 := (e280 16 (by have := lt_at f270; omega)).trans f270
  have f298 := (e280 17 (by have := lt_at f271; omega)).trans f271
  have f299 := (e280 18 (by have := lt_at f272; omega)).trans f272
  have f300 := (e280 19 (by have := lt_at f273; omega)).trans f273
  have f301 := (e280 20 (by have := lt_at f274; omega)).trans f274
  have sm302 := Gr.new sm275 ea278 e280 l281 s282
  have el303 : q277 = 21 := by omega
  subst el303
  refine x_dup dX11_init_50 rfl ?_
  refine x_callIN (rf' := 1) (rl' := 20) [] [.ref 21, .ref 3] dX11_init_51 vX11_36 Y_X4_init rfl rfl (Nat.le_of_ble_eq_true rfl) (Nat.le_of_ble_eq_true rfl) (by decide) (by decide) (c_X4_init (by omega) a279) (fun r h304 e305 => ?_)
  obtain ⟨e0, l306, g308, g309, g310, g311, gr307⟩ := e305
  cases e0
  have l306 : h304.length = 25 := l306
  have gr307 : Gr 22 [21] 3 288 h276 h304 := gr307
  have f312 := gr307.at f284 (by omega) (by decide)
  have f313 := gr307.at f285 (by omega) (by decide)
  have f314 := gr307.at f286 (by omega) (by decide)
  have f315 := gr307.at f287 (by omega) (by decide)
  have f316 := gr307.at f288 (by omega) (by decide)
  have f317 := gr307.at f289 (by omega) (by decide)
  have f318 := gr307.at f290 (by omega) (by decide)
  have f319 := gr307.at f291 (by omega) (by decide)
  have f320 := gr307.at f292 (by omega) (by decide)
  have f321 := gr307.at f293 (by omega) (by decide)
  have f322 := gr307.at f294 (by omega) (by decide)
  have f323 := gr307.at f295 (by omega) (by decide)
  have f324 := gr307.at f296 (by omega) (by decide)
  have f325 := gr307.at f297 (by omega) (by decide)
  have f326 := gr307.at f298 (by omega) (by decide)
  have f327 := gr307.at f299 (by omega) (by decide)
  have f328 := gr307.at f300 (by omega) (by decide)
  have f329 := gr307.at f301 (by omega) (by decide)
  have g308 : h304[21]? = some (cO 4 [.ref 22, .ref 23, .ref 24, .int (-1), .long 0, .long 0, .int 0, .int 100]) := g308
  have g309 : h304[22]? = some (cI 96 ((fun _ => 0))) := g309
  have g310 : h304[23]? = some (cI 96 ((fun _ => 0))) := g310
  have g311 : h304[24]? = some (cJ 96 ((fun _ => 0))) := g311
  have sm330 := Gr.tr sm302 gr307 (fun x hx hx2 => absurd hx (by have := List.mem_singleton.mp hx2; omega)) (by omega)
  refine x_put (fs2 := [.ref 4, .ref 6, .ref 15, .ref 16, .ref 21, .null, .null, .null, .int 0, .int 0, .int 0, .int 0]) dX11_init_54 fX11_37 (Or.inr ⟨rfl, _, rfl, rfl⟩) f312 (by decide) rfl rfl (Nat.le_of_ble_eq_true rfl) rfl (fun h331 a332 e333 l334 s335 => ?_)
  have f336 := (e333 4 (by decide)).trans f313
  have f337 := (e333 5 (by decide)).trans f314
  have f338 := (e333 6 (by decide)).trans f315
  have f339 := (e333 7 (by decide)).trans f316
  have f340 := (e333 8 (by decide)).trans f317
  have f341 := (e333 9 (by decide)).trans f318
  have f342 := (e333 10 (by decide)).trans f319
  have f343 := (e333 11 (by decide)).trans f320
  have f344 := (e333 12 (by decide)).trans f321
  have f345 := (e333 13 (by decide)).trans f322
  have f346 := (e333 14 (by decide)).trans f323
  have f347 := (e333 15 (by decide)).trans f324
  have f348 := (e333 16 (by decide)).trans f325
  have f349 := (e333 17 (by decide)).trans f326
  have f350 := (e333 18 (by decide)).trans f327
  have f351 := (e333 19 (by decide)).trans f328
  have f352 := (e333 20 (by decide)).trans f329
  have f353 := (e333 21 (by decide)).trans g308
  have f354 := (e333 22 (by decide)).trans g309
  have f355 := (e333 23 (by decide)).trans g310
  have f356 := (e333 24 (by decide)).trans g311
  have sm357 := Gr.put sm330 e333 l334 s335 (Or.inl (by decide))
  refine x_aload_n dX11_init_57 0 rfl ?_
  refine x_new dX11_init_58 nX11_41 (fun h358 q359 ea360 a361 e362 l363 s364 => ?_)
  have lm365 := sm357.2.1
  have f366 := (e362 3 (by have := lt_at a332; omega)).trans a332
  have f367 := (e362 4 (by have := lt_at f336; omega)).trans f336
  have f368 := (e362 5 (by have := lt_at f337; omega)).trans f337
  have f369 := (e362 6 (by have := lt_at f338; omega)).trans f338
  have f370 := (e362 7 (by have := lt_at f339; omega)).trans f339
  have f371 := (e362 8 (by have := lt_at f340; omega)).trans f340
  have f372 := (e362 9 (by have := lt_at f341; omega)).trans f341
  have f373 := (e362 10 (by have := lt_at f342; omega)).trans f342
  have f374 := (e362 11 (by have := lt_at f343; omega)).trans f343
  have f375 := (e362 12 (by have := lt_at f344; omega)).trans f344
  have f376 := (e362 13 (by have := lt_at f345; omega)).trans f345
  have f377 := (e362 14 (by have := lt_at f346; omega)).trans f346
  have f378 := (e362 15 (by have := lt_at f347; omega)).trans f347
  have f379 := (e362 16 (by have := lt_at f348; omega)).trans f348
  have f380 := (e362 17 (by have := lt_at f349; omega)).trans f349
  have f381 := (e362 18 (by have := lt_at f350; omega)).trans f350
  have f382 := (e362 19 (by have := lt_at f351; omega)).trans f351
  have f383 := (e362 20 (by have := lt_at f352; omega)).trans f352
  have f384 := (e362 21 (by have := lt_at f353; omega)).trans f353
  have f385 := (e362 22 (by have := lt_at f354; omega)).trans f354
  have f386 := (e362 23 (by have := lt_at f355; omega)).trans f355
  have f387 := (e362 24 (by have := lt_at f356; omega)).trans f356
  have sm388 := Gr.new sm357 ea360 e362 l363 s364
  have el389 : q359 = 25 := by omega
  subst el389
  refine x_dup dX11_init_61 rfl ?_
  refine x_callI (rf' := 1) (rl' := 20) [] [.ref 25, .ref 3] dX11_init_62 vX11_43 Y_X7_init rfl rfl (Nat.le_of_ble_eq_true rfl) (Nat.le_of_ble_eq_true rfl) (by decide) (by decide) (c_X7_init (by omega) a361) (fun r h390 e391 => ?_)
  obtain ⟨e0, l392, g394, g395, g396, g397, g398, g399, g400, gr393⟩ := e391
  cases e0
  have l392 : h390.length = 32 := l392
  have gr393 : Gr 26 [25] 6 52 h358 h390 := gr393
  have f401 := gr393.at f366 (by omega) (by decide)
  have f402 := gr393.at f367 (by omega) (by decide)
  have f403 := gr393.at f368 (by omega) (by decide)
  have f404 := gr393.at f369 (by omega) (by decide)
  have f405 := gr393.at f370 (by omega) (by decide)
  have f406 := gr393.at f371 (by omega) (by decide)
  have f407 := gr393.at f372 (by omega) (by decide)
  have f408 := gr393.at f373 (by omega) (by decide)
  have f409 := gr393.at f374 (by omega) (by decide)
  have f410 := gr393.at f375 (by omega) (by decide)
  have f411 := gr393.at f376 (by omega) (by decide)
  have f412 := gr393.at f377 (by omega) (by decide)
  have f413 := gr393.at f378 (by omega) (by decide)
  have f414 := gr393.at f379 (by omega) (by decide)
  have f415 := gr393.at f380 (by omega) (by decide)
  have f416 := gr393.at f381 (by omega) (by decide)
  have f417 := gr393.at f382 (by omega) (by decide)
  have f418 := gr393.at f383 (by omega) (by decide)
  have f419 := gr393.at f384 (by omega) (by decide)
  have f420 := gr393.at f385 (by omega) (by decide)
  have f421 := gr393.at f386 (by omega) (by decide)
  have f422 := gr393.at f387 (by omega) (by decide)
  have g394 : h390[25]? = some (cO 7 [.ref 26, .ref 27, .ref 28, .ref 29, .ref 30, .ref 31, .int 0]) := g394
  have g395 : h390[26]? = some (cI 10 ((fun _ => 0))) := g395
  have g396 : h390[27]? = some (cI 10 ((fun _ => 0))) := g396
  have g397 : h390[28]? = some (cI 10 ((fun _ => 0))) := g397
  have g398 : h390[29]? = some (cI 10 ((fun _ => 0))) := g398
  have g399 : h390[30]? = some (cI 6 ((fun _ => 0))) := g399
  have g400 : h390[31]? = some (cI 6 ((upd ((upd ((upd ((upd ((upd ((upd ((fun _ => 0)) 0 ((-1)))) 1 ((-1)))) 2 ((-1)))) 3 ((-1)))) 4 ((-1)))) 5 ((-1))))) := g400
  have sm423 := Gr.tr sm388 gr393 (fun x hx hx2 => absurd hx (by have := List.mem_singleton.mp hx2; omega)) (by omega)
  refine x_put (fs2 := [.ref 4, .ref 6, .ref 15, .ref 16, .ref 21, .ref 25, .null, .null, .int 0, .int 0, .int 0, .int 0]) dX11_init_65 fX11_44 (Or.inr ⟨rfl, _, rfl, rfl⟩) f401 (by decide) rfl rfl (Nat.le_of_ble_eq_true rfl) rfl (fun h424 a425 e426 l427 s428 => ?_)
  have f429 := (e426 4 (by decide)).trans f402
  have f430 := (e426 5 (by decide)).trans f403
  have f431 := (e426 6 (by decide)).trans f404
  have f432 := (e426 7 (by decide)).trans f405
  have f433 := (e426 8 (by decide)).trans f406
  have f434 := (e426 9 (by decide)).trans f407
  have f435 := (e426 10 (by decide)).trans f408
  have f436 := (e426 11 (by decide)).trans f409
  have f437 := (e426 12 (by decide)).trans f410
  have f438 := (e426 13 (by decide)).trans f411
  have f439 := (e426 14 (by decide)).trans f412
  have f440 := (e426 15 (by decide)).trans f413
  have f441 := (e426 16 (by decide)).trans f414
  have f442 := (e426 17 (by decide)).trans f415
  have f443 := (e426 18 (by decide)).trans f416
  have f444 := (e426 19 (by decide)).trans f417
  have f445 := (e426 20 (by decide)).trans f418
  have f446 := (e426 21 (by decide)).trans f419
  have f447 := (e426 22 (by decide)).trans f420
  have f448 := (e426 23 (by decide)).trans f421
  have f449 := (e426 24 (by decide)).trans f422
  have f450 := (e426 25 (by decide)).trans g394
  have f451 := (e426 26 (by decide)).trans g395
  have f452 := (e426 27 (by decide)).trans g396
  have f453 := (e426 28 (by decide)).trans g397
  have f454 := (e426 29 (by decide)).trans g398
  have f455 := (e426 30 (by decide)).trans g399
  have f456 := (e426 31 (by decide)).trans g400
  have sm457 := Gr.put sm423 e426 l427 s428 (Or.inl (by decide))
  refine x_aload_n dX11_init_68 0 rfl ?_
  refine x_new dX11_init_69 nX11_48 (fun h458 q459 ea460 a461 e462 l463 s464 => ?_)
  have lm465 := sm457.2.1
  have f466 := (e462 3 (by have := lt_at a425; omega)).trans a425
  have f467 := (e462 4 (by have := lt_at f429; omega)).trans f429
  have f468 := (e462 5 (by have := lt_at f430; omega)).trans f430
  have f469 := (e462 6 (by have := lt_at f431; omega)).trans f431
  have f470 := (e462 7 (by have := lt_at f432; omega)).trans f432
  have f471 := (e462 8 (by have := lt_at f433; omega)).trans f433
  have f472 := (e462 9 (by have := lt_at f434; omega)).trans f434
  have f473 := (e462 10 (by have := lt_at f435; omega)).trans f435
  have f474 := (e462 11 (by have := lt_at f436; omega)).trans f436
  have f475 := (e462 12 (by have := lt_at f437; omega)).trans f437
  have f476 := (e462 13 (by have := lt_at f438; omega)).trans f438
  have f477 := (e462 14 (by have := lt_at f439; omega)).trans f439
  have f478 := (e462 15 (by have := lt_at f440; omega)).trans f440
  have f479 := (e462 16 (by have := lt_at f441; omega)).trans f441
  have f480 := (e462 17 (by have := lt_at f442; omega)).trans f442
  have f481 := (e462 18 (by have := lt_at f443; omega)).trans f443
  have f482 := (e462 19 (by have := lt_at f444; omega)).trans f444
  have f483 := (e462 20 (by have := lt_at f445; omega)).trans f445
  have f484 := (e462 21 (by have := lt_at f446; omega)).trans f446
  have f485 := (e462 22 (by have := lt_at f447; omega)).trans f447
  have f486 := (e462 23 (by have := lt_at f448; omega)).trans f448
  have f487 := (e462 24 (by have := lt_at f449; omega)).trans f449
  have f488 := (e462 25 (by have := lt_at f450; omega)).trans f450
  have f489 := (e462 26 (by have := lt_at f451; omega)).trans f451
  have f490 := (e462 27 (by have := lt_at f452; omega)).trans f452
  have f491 := (e462 28 (by have := lt_at f453; omega)).trans f453
  have f492 := (e462 29 (by have := lt_at f454; omega)).trans f454
  have f493 := (e462 30 (by have := lt_at f455; omega)).trans f455
  have f494 := (e462 31 (by have := lt_at f456; omega)).trans f456
  have sm495 := Gr.new sm457 ea460 e462 l463 s464
  have el496 : q459 = 32 := by omega
  subst el496
  refine x_dup dX11_init_72 rfl ?_
  refine x_callIN (rf' := 1) (rl' := 20) [] [.ref 32, .ref 3] dX11_init_73 vX11_50 Y_X3_init rfl rfl (Nat.le_of_ble_eq_true rfl) (Nat.le_of_ble_eq_true rfl) (by decide) (by decide) (c_X3_init (by omega) a461) (fun r h497 e498 => ?_)
  obtain ⟨e0, l499, g501, g502, g503, gr500⟩ := e498
  cases e0
  have l499 : h497.length = 35 := l499
  have gr500 : Gr 33 [32] 2 16 h458 h497 := gr500
  have f504 := gr500.at f466 (by omega) (by decide)
  have f505 := gr500.at f467 (by omega) (by decide)
  have f506 := gr500.at f468 (by omega) (by decide)
  have f507 := gr500.at f469 (by omega) (by decide)
  have f508 := gr500.at f470 (by omega) (by decide)
  have f509 := gr500.at f471 (by omega) (by decide)
  have f510 := gr500.at f472 (by omega) (by decide)
  have f511 := gr500.at f473 (by omega) (by decide)
  have f512 := gr500.at f474 (by omega) (by decide)
  have f513 := gr500.at f475 (by omega) (by decide)
  have f514 := gr500.at f476 (by omega) (by decide)
  have f515 := gr500.at f477 (by omega) (by decide)
  have f516 := gr500.at f478 (by omega) (by decide)
  have f517 := gr500.at f479 (by omega) (by decide)
  have f518 := gr500.at f480 (by omega) (by decide)
  have f519 := gr500.at f481 (by omega) (by decide)
  have f520 := gr500.at f482 (by omega) (by decide)
  have f521 := gr500.at f483 (by omega) (by decide)
  have f522 := gr500.at f484 (by omega) (by decide)
  have f523 := gr500.at f485 (by omega) (by decide)
  have f524 := gr500.at f486 (by omega) (by decide)
  have f525 := gr500.at f487 (by omega) (by decide)
  have f526 := gr500.at f488 (by omega) (by decide)
  have f527 := gr500.at f489 (by omega) (by decide)
  have f528 := gr500.at f490 (by omega) (by decide)
  have f529 := gr500.at f491 (by omega) (by decide)
  have f530 := gr500.at f492 (by omega) (by decide)
  have f531 := gr500.at f493 (by omega) (by decide)
  have f532 := gr500.at f494 (by omega) (by decide)
  have g501 : h497[32]? = some (cO 3 [.ref 33, .ref 34, .int 0, .int 0, .int 0]) := g501
  have g502 : h497[33]? = some (cI 8 ((fun _ => 0))) := g502
  have g503 : h497[34]? = some (cI 8 ((fun _ => 0))) := g503
  have sm533 := Gr.tr sm495 gr500 (fun x hx hx2 => absurd hx (by have := List.mem_singleton.mp hx2; omega)) (by omega)
  refine x_put (fs2 := [.ref 4, .ref 6, .ref 15, .ref 16, .ref 21, .ref 25, .ref 32, .null, .int 0, .int 0, .int 0, .int 0]) dX11_init_76 fX11_51 (Or.inr ⟨rfl, _, rfl, rfl⟩) f504 (by decide) rfl rfl (Nat.le_of_ble_eq_true rfl) rfl (fun h534 a535 e536 l537 s538 => ?_)
  have f539 := (e536 4 (by decide)).trans f505
  have f540 := (e536 5 (by decide)).trans f506
  have f541 := (e536 6 (by decide)).trans f507
  have f542 := (e536 7 (by decide)).trans f508
  have f543 := (e536 8 (by decide)).trans f509
  have f544 := (e536 9 (by decide)).trans f510
  have f545 := (e536 10 (by decide)).trans f511
  have f546 := (e536 11 (by decide)).trans f512
  have f547 := (e536 12 (by decide)).trans f513
  have f548 := (e536 13 (by decide)).trans f514
  have f549 := (e536 14 (by decide)).trans f515
  have f550 := (e536 15 (by decide)).trans f516
  have f551 := (e536 16 (by decide)).trans f517
  have f552 := (e536 17 (by decide)).trans f518
  have f553 := (e536 18 (by decide)).trans f519
  have f554 := (e536 19 (by decide)).trans f520
  have f555 := (e536 20 (by decide)).trans f521
  have f556 := (e536 21 (by decide)).trans f522
  have f557 := (e536 22 (by decide)).trans f523
  have f558 := (e536 23 (by decide)).trans f524
  have f559 := (e536 24 (by decide)).trans f525
  have f560 := (e536 25 (by decide)).trans f526
  have f561 := (e536 26 (by decide)).trans f527
  have f562 := (e536 27 (by decide)).trans f528
  have f563 := (e536 28 (by decide)).trans f529
  have f564 := (e536 29 (by decide)).trans f530
  have f565 := (e536 30 (by decide)).trans f531
  have f566 := (e536 31 (by decide)).trans f532
  have f567 := (e536 32 (by decide)).trans g501
  have f568 := (e536 33 (by decide)).trans g502
  have f569 := (e536 34 (by decide)).trans g503
  have sm570 := Gr.put sm533 e536 l537 s538 (Or.inl (by decide))
  refine x_aload_n dX11_init_79 0 rfl ?_
  refine x_bipush (v := 6) dX11_init_80 (by decide) ?_
  refine x_newa (t := 0) (N := 6) (ty := .int) (x := (6, .inl (fun _ => 0))) dX11_init_82 rfl rfl (by simp) ac_int (fun _ => rfl) rfl (by decide) (by decide) (by decide) (fun h571 q572 ea573 a574 e575 l576 s577 => ?_)
  have lm578 := sm570.2.1
  have f579 := (e575 3 (by have := lt_at a535; omega)).trans a535
  have f580 := (e575 4 (by have := lt_at f539; omega)).trans f539
  have f581 := (e575 5 (by have := lt_at f540; omega)).trans f540
  have f582 := (e575 6 (by have := lt_at f541; omega)).trans f541
  have f583 := (e575 7 (by have := lt_at f542; omega)).trans f542
  have f584 := (e575 8 (by have := lt_at f543; omega)).trans f543
  have f585 := (e575 9 (by have := lt_at f544; omega)).trans f544
  have f586 := (e575 10 (by have := lt_at f545; omega)).trans f545
  have f587 := (e575 11 (by have := lt_at f546; omega)).trans f546
  have f588 := (e575 12 (by have := lt_at f547; omega)).trans f547
  have f589 := (e575 13 (by have := lt_at f548; omega)).trans f548
  have f590 := (e575 14 (by have := lt_at f549; omega)).trans f549
  have f591 := (e575 15 (by have := lt_at f550; omega)).trans f550
  have f592 := (e575 16 (by have := lt_at f551; omega)).trans f551
  have f593 := (e575 17 (by have := lt_at f552; omega)).trans f552
  have f594 := (e575 18 (by have := lt_at f553; omega)).trans f553
  have f595 := (e575 19 (by have := lt_at f554; omega)).trans f554
  have f596 := (e575 20 (by have := lt_at f555; omega)).trans f555
  have f597 := (e575 21 (by have := lt_at f556; omega)).trans f556
  have f598 := (e575 22 (by have := lt_at f557; omega)).trans f557
  have f599 := (e575 23 (by have := lt_at f558; omega)).trans f558
  have f600 := (e575 24 (by have := lt_at f559; omega)).trans f559
  have f601 := (e575 25 (by have := lt_at f560; omega)).trans f560
  have f602 := (e575 26 (by have := lt_at f561; omega)).trans f561
  have f603 := (e575 27 (by have := lt_at f562; omega)).trans f562
  have f604 := (e575 28 (by have := lt_at f563; omega)).trans f563
  have f605 := (e575 29 (by have := lt_at f564; omega)).trans f564
  have f606 := (e575 30 (by have := lt_at f565; omega)).trans f565
  have f607 := (e575 31 (by have := lt_at f566; omega)).trans f566
  have f608 := (e575 32 (by have := lt_at f567; omega)).trans f567
  have f609 := (e575 33 (by have := lt_at f568; omega)).trans f568
  have f610 := (e575 34 (by have := lt_at f569; omega)).trans f569
  have sm611 := Gr.new sm570 ea573 e575 l576 s577
  have el612 : q572 = 35 := by omega
  subst el612
  refine x_put (fs2 := [.ref 4, .ref 6, .ref 15, .ref 16, .ref 21, .ref 25, .ref 32, .ref 35, .int 0, .int 0, .int 0, .int 0]) dX11_init_84 fX11_55 (Or.inr ⟨rfl, _, rfl, rfl⟩) f579 (by decide) rfl rfl (Nat.le_of_ble_eq_true rfl) rfl (fun h613 a614 e615 l616 s617 => ?_)
  have f618 := (e615 4 (by decide)).trans f580
  have f619 := (e615 5 (by decide)).trans f581
  have f620 := (e615 6 (by decide)).trans f582
  have f621 := (e615 7 (by decide)).trans f583
  have f622 := (e615 8 (by decide)).trans f584
  have f623 := (e615 9 (by decide)).trans f585
  have f624 := (e615 10 (by decide)).trans f586
  have f625 := (e615 11 (by decide)).trans f587
  have f626 := (e615 12 (by decide)).trans f588
  have f627 := (e615 13 (by decide)).trans f589
  have f628 := (e615 14 (by decide)).trans f590
  have f629 := (e615 15 (by decide)).trans f591
  have f630 := (e615 16 (by decide)).trans f592
  have f631 := (e615 17 (by decide)).trans f593
  have f632 := (e615 18 (by decide)).trans f594
  have f633 := (e615 19 (by decide)).trans f595
  have f634 := (e615 20 (by decide)).trans f596
  have f635 := (e615 21 (by decide)).trans f597
  have f636 := (e615 22 (by decide)).trans f598
  have f637 := (e615 23 (by decide)).trans f599
  have f638 := (e615 24 (by decide)).trans f600
  have f639 := (e615 25 (by decide)).trans f601
  have f640 := (e615 26 (by decide)).trans f602
  have f641 := (e615 27 (by decide)).trans f603
  have f642 := (e615 28 (by decide)).trans f604
  have f643 := (e615 29 (by decide)).trans f605
  have f644 := (e615 30 (by decide)).trans f606
  have f645 := (e615 31 (by decide)).trans f607
  have f646 := (e615 32 (by decide)).trans f608
  have f647 := (e615 33 (by decide)).trans f609
  have f648 := (e615 34 (by decide)).trans f610
  have f649 := (e615 35 (by decide)).trans a574
  have sm650 := Gr.put sm611 e615 l616 s617 (Or.inl (by decide))
  refine x_aload_n dX11_init_87 0 rfl ?_
  refine x_iconst (v := 0) dX11_init_88 (by decide) ?_
  refine x_put (fs2 := [.ref 4, .ref 6, .ref 15, .ref 16, .ref 21, .ref 25, .ref 32, .ref 35, .int 0, .int 0, .int 0, .int 0]) dX11_init_89 fX11_59 (Or.inl rfl) a614 (by decide) rfl rfl (Nat.le_of_ble_eq_true rfl) rfl (fun h651 a652 e653 l654 s655 => ?_)
  have f656 := (e653 4 (by decide)).trans f618
  have f657 := (e653 5 (by decide)).trans f619
  have f658 := (e653 6 (by decide)).trans f620
  have f659 := (e653 7 (by decide)).trans f621
  have f660 := (e653 8 (by decide)).trans f622
  have f661 := (e653 9 (by decide)).trans f623
  have f662 := (e653 10 (by decide)).trans f624
  have f663 := (e653 11 (by decide)).trans f625
  have f664 := (e653 12 (by decide)).trans f626
  have f665 := (e653 13 (by decide)).trans f627
  have f666 := (e653 14 (by decide)).trans f628
  have f667 := (e653 15 (by decide)).trans f629
  have f668 := (e653 16 (by decide)).trans f630
  have f669 := (e653 17 (by decide)).trans f631
  have f670 := (e653 18 (by decide)).trans f632
  have f671 := (e653 19 (by decide)).trans f633
  have f672 := (e653 20 (by decide)).trans f634
  have f673 := (e653 21 (by decide)).trans f635
  have f674 := (e653 22 (by decide)).trans f636
  have f675 := (e653 23 (by decide)).trans f637
  have f676 := (e653 24 (by decide)).trans f638
  have f677 := (e653 25 (by decide)).trans f639
  have f678 := (e653 26 (by decide)).trans f640
  have f679 := (e653 27 (by decide)).trans f641
  have f680 := (e653 28 (by decide)).trans f642
  have f681 := (e653 29 (by decide)).trans f643
  have f682 := (e653 30 (by decide)).trans f644
  have f683 := (e653 31 (by decide)).trans f645
  have f684 := (e653 32 (by decide)).trans f646
  have f685 := (e653 33 (by decide)).trans f647
  have f686 := (e653 34 (by decide)).trans f648
  have f687 := (e653 35 (by decide)).trans f649
  have sm688 := Gr.put sm650 e653 l654 s655 (Or.inl (by decide))
  refine x_aload_n dX11_init_92 0 rfl ?_
  refine x_iconst (v := 0) dX11_init_93 (by decide) ?_
  refine x_put (fs2 := [.ref 4, .ref 6, .ref 15, .ref 16, .ref 21, .ref 25, .ref 32, .ref 35, .int 0, .int 0, .int 0, .int 0]) dX11_init_94 fX11_63 (Or.inl rfl) a652 (by decide) rfl rfl (Nat.le_of_ble_eq_true rfl) rfl (fun h689 a690 e691 l692 s693 => ?_)
  have f694 := (e691 4 (by decide)).trans f656
  have f695 := (e691 5 (by decide)).trans f657
  have f696 := (e691 6 (by decide)).trans f658
  have f697 := (e691 7 (by decide)).trans f659
  have f698 := (e691 8 (by decide)).trans f660
  have f699 := (e691 9 (by decide)).trans f661
  have f700 := (e691 10 (by decide)).trans f662
  have f701 := (e691 11 (by decide)).trans f663
  have f702 := (e691 12 (by decide)).trans f664
  have f703 := (e691 13 (by decide)).trans f665
  have f704 := (e691 14 (by decide)).trans f666
  have f705 := (e691 15 (by decide)).trans f667
  have f706 := (e691 16 (by decide)).trans f668
  have f707 := (e691 17 (by decide)).trans f669
  have f708 := (e691 18 (by decide)).trans f670
  have f709 := (e691 19 (by decide)).trans f671
  have f710 := (e691 20 (by decide)).trans f672
  have f711 := (e691 21 (by decide)).trans f673
  have f712 := (e691 22 (by decide)).trans f674
  have f713 := (e691 23 (by decide)).trans f675
  have f714 := (e691 24 (by decide)).trans f676
  have f715 := (e691 25 (by decide)).trans f677
  have f716 := (e691 26 (by decide)).trans f678
  have f717 := (e691 27 (by decide)).trans f679
  have f718 := (e691 28 (by decide)).trans f680
  have f719 := (e691 29 (by decide)).trans f681
  have f720 := (e691 30 (by decide)).trans f682
  have f721 := (e691 31 (by decide)).trans f683
  have f722 := (e691 32 (by decide)).trans f684
  have f723 := (e691 33 (by decide)).trans f685
  have f724 := (e691 34 (by decide)).trans f686
  have f725 := (e691 35 (by decide)).trans f687
  have sm726 := Gr.put sm688 e691 l692 s693 (Or.inl (by decide))
  refine x_aload_n dX11_init_97 0 rfl ?_
  refine x_iconst (v := 0) dX11_init_98 (by decide) ?_
  refine x_put (fs2 := [.ref 4, .ref 6, .ref 15, .ref 16, .ref 21, .ref 25, .ref 32, .ref 35, .int 0, .int 0, .int 0, .int 0]) dX11_init_99 fX11_66 (Or.inl rfl) a690 (by decide) rfl rfl (Nat.le_of_ble_eq_true rfl) rfl (fun h727 a728 e729 l730 s731 => ?_)
  have f732 := (e729 4 (by decide)).trans f694
  have f733 := (e729 5 (by decide)).trans f695
  have f734 := (e729 6 (by decide)).trans f696
  have f735 := (e729 7 (by decide)).trans f697
  have f736 := (e729 8 (by decide)).trans f698
  have f737 := (e729 9 (by decide)).trans f699
  have f738 := (e729 10 (by decide)).trans f700
  have f739 := (e729 11 (by decide)).trans f701
  have f740 := (e729 12 (by decide)).trans f702
  have f741 := (e729 13 (by decide)).trans f703
  have f742 := (e729 14 (by decide)).trans f704
  have f743 := (e729 15 (by decide)).trans f705
  have f744 := (e729 16 (by decide)).trans f706
  have f745 := (e729 17 (by decide)).trans f707
  have f746 := (e729 18 (by decide)).trans f708
  have f747 := (e729 19 (by decide)).trans f709
  have f748 := (e729 20 (by decide)).trans f710
  have f749 := (e729 21 (by decide)).trans f711
  have f750 := (e729 22 (by decide)).trans f712
  have f751 := (e729 23 (by decide)).trans f713
  have f752 := (e729 24 (by decide)).trans f714
  have f753 := (e729 25 (by decide)).trans f715
  have f754 := (e729 26 (by decide)).trans f716
  have f755 := (e729 27 (by decide)).trans f717
  have f756 := (e729 28 (by decide)).trans f718
  have f757 := (e729 29 (by decide)).trans f719
  have f758 := (e729 30 (by decide)).trans f720
  have f759 := (e729 31 (by decide)).trans f721
  have f760 := (e729 32 (by decide)).trans f722
  have f761 := (e729 33 (by decide)).trans f723
  have f762 := (e729 34 (by decide)).trans f724
  have f763 := (e729 35 (by decide)).trans f725
  have sm764 := Gr.put sm726 e729 l730 s731 (Or.inl (by decide))
  refine x_aload_n dX11_init_102 0 rfl ?_
  refine x_iconst (v := (-1)) dX11_init_103 (by decide) ?_
  refine x_put (fs2 := [.ref 4, .ref 6, .ref 15, .ref 16, .ref 21, .ref 25, .ref 32, .ref 35, .int 0, .int 0, .int 0, .int (-1)]) dX11_init_104 fX11_69 (Or.inl rfl) a728 (by decide) rfl rfl (Nat.le_of_ble_eq_true rfl) rfl (fun h765 a766 e767 l768 s769 => ?_)
  have f770 := (e767 4 (by decide)).trans f732
  have f771 := (e767 5 (by decide)).trans f733
  have f772 := (e767 6 (by decide)).trans f734
  have f773 := (e767 7 (by decide)).trans f735
  have f774 := (e767 8 (by decide)).trans f736
  have f775 := (e767 9 (by decide)).trans f737
  have f776 := (e767 10 (by decide)).trans f738
  have f777 := (e767 11 (by decide)).trans f739
  have f778 := (e767 12 (by decide)).trans f740
  have f779 := (e767 13 (by decide)).trans f741
  have f780 := (e767 14 (by decide)).trans f742
  have f781 := (e767 15 (by decide)).trans f743
  have f782 := (e767 16 (by decide)).trans f744
  have f783 := (e767 17 (by decide)).trans f745
  have f784 := (e767 18 (by decide)).trans f746
  have f785 := (e767 19 (by decide)).trans f747
  have f786 := (e767 20 (by decide)).trans f748
  have f787 := (e767 21 (by decide)).trans f749
  have f788 := (e767 22 (by decide)).trans f750
  have f789 := (e767 23 (by decide)).trans f751
  have f790 := (e767 24 (by decide)).trans f752
  have f791 := (e767 25 (by decide)).trans f753
  have f792 := (e767 26 (by decide)).trans f754
  have f793 := (e767 27 (by decide)).trans f755
  have f794 := (e767 28 (by decide)).trans f756
  have f795 := (e767 29 (by decide)).trans f757
  have f796 := (e767 30 (by decide)).trans f758
  have f797 := (e767 31 (by decide)).trans f759
  have f798 := (e767 32 (by decide)).trans f760
  have f799 := (e767 33 (by decide)).trans f761
  have f800 := (e767 34 (by decide)).trans f762
  have f801 := (e767 35 (by decide)).trans f763
  have sm802 := Gr.put sm764 e767 l768 s769 (Or.inl (by decide))
  exact x_vret dX11_init_107 rfl ⟨rfl, by show h765.length = _; omega, ⟨a766, ⟨_, f770, f771, fun j hj => absurd hj (Nat.not_lt_zero j)⟩, ⟨nc, at9, v, ft, fk, ln, ep, zr, z9, z10, z11, y12, y13, y14, f772, f773, f774, hr, f775, f776, f777, f778, f779, f780⟩, ⟨_, fun _ => 0, f781, fun k hk => absurd hk (Nat.not_lt_zero k), ⟨by decide, 17, 18, 19, 20, fun _ => 0, fun _ => 0, fun _ => 0, fun _ => 0, _, _, _, _, 0, by decide, by decide, by decide, by decide, by decide, f782, f783, f784, f785, f786, fun k hk => absurd hk (Nat.not_lt_zero k), fun k hk => absurd hk (Nat.not_lt_zero k), fun k hk => absurd hk (Nat.not_lt_zero k), fun k hk => absurd hk (Nat.not_lt_zero k)⟩⟩, ⟨_, _, _, _, 0, _, _, _, f787, f788, f789, f790, by decide⟩, ⟨_, _, _, _, _, _, _, f791, f792, f793, f794, f795, f796, f797, six rfl rfl rfl rfl rfl rfl⟩, ⟨_, _, _, _, f798, f799, f800⟩, ⟨_, f801⟩⟩, sm802⟩

set_option maxRecDepth 100000 in
set_option maxHeartbeats 4000000 in
theorem c_X8_init {G : GT} {h : List PE} (hl : h.length = 5) (fq : h[4]? = some (cO 8 [.null, .int 0])) : CT G mX8_init 1 20 [.ref 4] h (fun o => o.1 = none ∧ o.2.length = 6 ∧ o.2[4]? = some (cO 8 [.ref 5, .int 0]) ∧ o.2[5]? = some (cB 640 ((fun _ => 0))) ∧ Gr 5 [4] 1 640 h o.2) := by
  have sm0 : Gr 5 [4] 0 0 h h := Gr.rf
  show X (NF G) G mX8_init 1 20 0 [(0, .ref 4)] [] h _
  refine x_aload_n dX8_init_0 0 rfl ?_
  refine x_objInit dX8_init_1 oX8_3 oI_inst oI_code (by decide) (Nat.le_of_ble_eq_true rfl) ?_
  refine x_aload_n dX8_init_4 0 rfl ?_
  refine x_sipush (v := 640) dX8_init_5 (by decide) ?_
  refine x_newa (t := 2) (N := 640) (ty := .byte) (x := (640, .inl (fun _ => 0))) dX8_init_8 rfl rfl (by simp) ac_byte (fun _ => rfl) rfl (by decide) (by decide) (by decide) (fun h101 q102 ea103 a104 e105 l106 s107 => ?_)
  have lm108 := sm0.2.1
  have f109 := (e105 4 (by have := lt_at fq; omega)).trans fq
  have sm110 := Gr.new sm0 ea103 e105 l106 s107
  have el111 : q102 = 5 := by omega
  subst el111
  refine x_put (fs2 := [.ref 5, .int 0]) dX8_init_10 fX8_11 (Or.inr ⟨rfl, _, rfl, rfl⟩) f109 (by decide) rfl rfl (Nat.le_of_ble_eq_true rfl) rfl (fun h112 a113 e114 l115 s116 => ?_)
  have f117 := (e114 5 (by decide)).trans a104
  have sm118 := Gr.put sm110 e114 l115 s116 (Or.inl (by decide))
  refine x_aload_n dX8_init_13 0 rfl ?_
  refine x_iconst (v := 0) dX8_init_14 (by decide) ?_
  refine x_put (fs2 := [.ref 5, .int 0]) dX8_init_15 fX8_15 (Or.inl rfl) a113 (by decide) rfl rfl (Nat.le_of_ble_eq_true rfl) rfl (fun h119 a120 e121 l122 s123 => ?_)
  have f124 := (e121 5 (by decide)).trans f117
  have sm125 := Gr.put sm118 e121 l122 s123 (Or.inl (by decide))
  exact x_vret dX8_init_18 rfl ⟨rfl, by show h119.length = _; omega, a120, f124, sm125⟩

set_option maxRecDepth 100000 in
set_option maxHeartbeats 4000000 in
theorem c_X4_init {G : GT} {h : List PE} (hl : h.length = 22) (fq : h[21]? = some (cO 4 [.null, .null, .null, .int 0, .long 0, .long 0, .int 0, .int 0])) : CT G mX4_init 1 20 [.ref 21] h (fun o => o.1 = none ∧ o.2.length = 25 ∧ o.2[21]? = some (cO 4 [.ref 22, .ref 23, .ref 24, .int (-1), .long 0, .long 0, .int 0, .int 100]) ∧ o.2[22]? = some (cI 96 ((fun _ => 0))) ∧ o.2[23]? = some (cI 96 ((fun _ => 0))) ∧ o.2[24]? = some (cJ 96 ((fun _ => 0))) ∧ Gr 22 [21] 3 288 h o.2) := by
  have sm0 : Gr 22 [21] 0 0 h h := Gr.rf
  show X (NF G) G mX4_init 1 20 0 [(0, .ref 21)] [] h _
  refine x_aload_n dX4_init_0 0 rfl ?_
  refine x_objInit dX4_init_1 oX4_3 oI_inst oI_code (by decide) (Nat.le_of_ble_eq_true rfl) ?_
  refine x_aload_n dX4_init_4 0 rfl ?_
  refine x_bipush (v := 96) dX4_init_5 (by decide) ?_
  refine x_newa (t := 0) (N := 96) (ty := .int) (x := (96, .inl (fun _ => 0))) dX4_init_7 rfl rfl (by simp) ac_int (fun _ => rfl) rfl (by decide) (by decide) (by decide) (fun h101 q102 ea103 a104 e105 l106 s107 => ?_)
  have lm108 := sm0.2.1
  have f109 := (e105 21 (by have := lt_at fq; omega)).trans fq
  have sm110 := Gr.new sm0 ea103 e105 l106 s107
  have el111 : q102 = 22 := by omega
  subst el111
  refine x_put (fs2 := [.ref 22, .null, .null, .int 0, .long 0, .long 0, .int 0, .int 0]) dX4_init_9 fX4_11 (Or.inr ⟨rfl, _, rfl, rfl⟩) f109 (by decide) rfl rfl (Nat.le_of_ble_eq_true rfl) rfl (fun h112 a113 e114 l115 s116 => ?_)
  have f117 := (e114 22 (by decide)).trans a104
  have sm118 := Gr.put sm110 e114 l115 s116 (Or.inl (by decide))
  refine x_aload_n dX4_init_12 0 rfl ?_
  refine x_bipush (v := 96) dX4_init_13 (by decide) ?_
  refine x_newa (t := 0) (N := 96) (ty := .int) (x := (96, .inl (fun _ => 0))) dX4_init_15 rfl rfl (by simp) ac_int (fun _ => rfl) rfl (by decide) (by decide) (by decide) (fun h119 q120 ea121 a122 e123 l124 s125 => ?_)
  have lm126 := sm118.2.1
  have f127 := (e123 21 (by have := lt_at a113; omega)).trans a113
  have f128 := (e123 22 (by have := lt_at f117; omega)).trans f117
  have sm129 := Gr.new sm118 ea121 e123 l124 s125
  have el130 : q120 = 23 := by omega
  subst el130
  refine x_put (fs2 := [.ref 22, .ref 23, .null, .int 0, .long 0, .long 0, .int 0, .int 0]) dX4_init_17 fX4_15 (Or.inr ⟨rfl, _, rfl, rfl⟩) f127 (by decide) rfl rfl (Nat.le_of_ble_eq_true rfl) rfl (fun h131 a132 e133 l134 s135 => ?_)
  have f136 := (e133 22 (by decide)).trans f128
  have f137 := (e133 23 (by decide)).trans a122
  have sm138 := Gr.put sm129 e133 l134 s135 (Or.inl (by decide))
  refine x_aload_n dX4_init_20 0 rfl ?_
  refine x_bipush (v := 96) dX4_init_21 (by decide) ?_
  refine x_newa (t := 1) (N := 96) (ty := .long) (x := (96, .inr (.inl (fun _ => 0)))) dX4_init_23 rfl rfl (by simp) ac_long (fun _ => rfl) rfl (by decide) (by decide) (by decide) (fun h139 q140 ea141 a142 e143 l144 s145 => ?_)
  have lm146 := sm138.2.1
  have f147 := (e143 21 (by have := lt_at a132; omega)).trans a132
  have f148 := (e143 22 (by have := lt_at f136; omega)).trans f136
  have f149 := (e143 23 (by have := lt_at f137; omega)).trans f137
  have sm150 := Gr.new sm138 ea141 e143 l144 s145
  have el151 : q140 = 24 := by omega
  subst el151
  refine x_put (fs2 := [.ref 22, .ref 23, .ref 24, .int 0, .long 0, .long 0, .int 0, .int 0]) dX4_init_25 fX4_18 (Or.inr ⟨rfl, _, rfl, rfl⟩) f147 (by decide) rfl rfl (Nat.le_of_ble_eq_true rfl) rfl (fun h152 a153 e154 l155 s156 => ?_)
  have f157 := (e154 22 (by decide)).trans f148
  have f158 := (e154 23 (by decide)).trans f149
  have f159 := (e154 24 (by decide)).trans a142
  have sm160 := Gr.put sm150 e154 l155 s156 (Or.inl (by decide))
  refine x_aload_n dX4_init_28 0 rfl ?_
  refine x_iconst (v := (-1)) dX4_init_29 (by decide) ?_
  refine x_put (fs2 := [.ref 22, .ref 23, .ref 24, .int (-1), .long 0, .long 0, .int 0, .int 0]) dX4_init_30 fX4_22 (Or.inl rfl) a153 (by decide) rfl rfl (Nat.le_of_ble_eq_true rfl) rfl (fun h161 a162 e163 l164 s165 => ?_)
  have f166 := (e163 22 (by decide)).trans f157
  have f167 := (e163 23 (by decide)).trans f158
  have f168 := (e163 24 (by decide)).trans f159
  have sm169 := Gr.put sm160 e163 l164 s165 (Or.inl (by decide))
  refine x_aload_n dX4_init_33 0 rfl ?_
  refine x_lconst (v := 0) dX4_init_34 (by decide) ?_
  refine x_put (fs2 := [.ref 22, .ref 23, .ref 24, .int (-1), .long 0, .long 0, .int 0, .int 0]) dX4_init_35 fX4_26 (Or.inl rfl) a162 (by decide) rfl rfl (Nat.le_of_ble_eq_true rfl) rfl (fun h170 a171 e172 l173 s174 => ?_)
  have f175 := (e172 22 (by decide)).trans f166
  have f176 := (e172 23 (by decide)).trans f167
  have f177 := (e172 24 (by decide)).trans f168
  have sm178 := Gr.put sm169 e172 l173 s174 (Or.inl (by decide))
  refine x_aload_n dX4_init_38 0 rfl ?_
  refine x_lconst (v := 0) dX4_init_39 (by decide) ?_
  refine x_put (fs2 := [.ref 22, .ref 23, .ref 24, .int (-1), .long 0, .long 0, .int 0, .int 0]) dX4_init_40 fX4_30 (Or.inl rfl) a171 (by decide) rfl rfl (Nat.le_of_ble_eq_true rfl) rfl (fun h179 a180 e181 l182 s183 => ?_)
  have f184 := (e181 22 (by decide)).trans f175
  have f185 := (e181 23 (by decide)).trans f176
  have f186 := (e181 24 (by decide)).trans f177
  have sm187 := Gr.put sm178 e181 l182 s183 (Or.inl (by decide))
  refine x_aload_n dX4_init_43 0 rfl ?_
  refine x_iconst (v := 0) dX4_init_44 (by decide) ?_
  refine x_put (fs2 := [.ref 22, .ref 23, .ref 24, .int (-1), .long 0, .long 0, .int 0, .int 0]) dX4_init_45 fX4_33 (Or.inl rfl) a180 (by decide) rfl rfl (Nat.le_of_ble_eq_true rfl) rfl (fun h188 a189 e190 l191 s192 => ?_)
  have f193 := (e190 22 (by decide)).trans f184
  have f194 := (e190 23 (by decide)).trans f185
  have f195 := (e190 24 (by decide)).trans f186
  have sm196 := Gr.put sm187 e190 l191 s192 (Or.inl (by decide))
  refine x_aload_n dX4_init_48 0 rfl ?_
  refine x_bipush (v := 100) dX4_init_49 (by decide) ?_
  refine x_put (fs2 := [.ref 22, .ref 23, .ref 24, .int (-1), .long 0, .long 0, .int 0, .int 100]) dX4_init_51 fX4_36 (Or.inl rfl) a189 (by decide) rfl rfl (Nat.le_of_ble_eq_true rfl) rfl (fun h197 a198 e199 l200 s201 => ?_)
  have f202 := (e199 22 (by decide)).trans f193
  have f203 := (e199 23 (by decide)).trans f194
  have f204 := (e199 24 (by decide)).trans f195
  have sm205 := Gr.put sm196 e199 l200 s201 (Or.inl (by decide))
  exact x_vret dX4_init_54 rfl ⟨rfl, by show h197.length = _; omega, a198, f202, f203, f204, sm205⟩

set_option maxRecDepth 100000 in
set_option maxHeartbeats 4000000 in
theorem c_X7_init {G : GT} {h : List PE} (hl : h.length = 26) (fq : h[25]? = some (cO 7 [.null, .null, .null, .null, .null, .null, .int 0])) : CT G mX7_init 1 20 [.ref 25] h (fun o => o.1 = none ∧ o.2.length = 32 ∧ o.2[25]? = some (cO 7 [.ref 26, .ref 27, .ref 28, .ref 29, .ref 30, .ref 31, .int 0]) ∧ o.2[26]? = some (cI 10 ((fun _ => 0))) ∧ o.2[27]? = some (cI 10 ((fun _ => 0))) ∧ o.2[28]? = some (cI 10 ((fun _ => 0))) ∧ o.2[29]? = some (cI 10 ((fun _ => 0))) ∧ o.2[30]? = some (cI 6 ((fun _ => 0))) ∧ o.2[31]? = some (cI 6 ((upd ((upd ((upd ((upd ((upd ((upd ((fun _ => 0)) 0 ((-1)))) 1 ((-1)))) 2 ((-1)))) 3 ((-1)))) 4 ((-1)))) 5 ((-1))))) ∧ Gr 26 [25] 6 52 h o.2) := by
  have sm0 : Gr 26 [25] 0 0 h h := Gr.rf
  show X (NF G) G mX7_init 1 20 0 [(0, .ref 25)] [] h _
  refine x_aload_n dX7_init_0 0 rfl ?_
  refine x_objInit dX7_init_1 oX7_3 oI_inst oI_code (by decide) (Nat.le_of_ble_eq_true rfl) ?_
  refine x_aload_n dX7_init_4 0 rfl ?_
  refine x_bipush (v := 10) dX7_init_5 (by decide) ?_
  refine x_newa (t := 0) (N := 10) (ty := .int) (x := (10, .inl (fun _ => 0))) dX7_init_7 rfl rfl (by simp) ac_int (fun _ => rfl) rfl (by decide) (by decide) (by decide) (fun h101 q102 ea103 a104 e105 l106 s107 => ?_)
  have lm108 := sm0.2.1
  have f109 := (e105 25 (by have := lt_at fq; omega)).trans fq
  have sm110 := Gr.new sm0 ea103 e105 l106 s107
  have el111 : q102 = 26 := by omega
  subst el111
  refine x_put (fs2 := [.ref 26, .null, .null, .null, .null, .null, .int 0]) dX7_init_9 fX7_11 (Or.inr ⟨rfl, _, rfl, rfl⟩) f109 (by decide) rfl rfl (Nat.le_of_ble_eq_true rfl) rfl (fun h112 a113 e114 l115 s116 => ?_)
  have f117 := (e114 26 (by decide)).trans a104
  have sm118 := Gr.put sm110 e114 l115 s116 (Or.inl (by decide))
  refine x_aload_n dX7_init_12 0 rfl ?_
  refine x_bipush (v := 10) dX7_init_13 (by decide) ?_
  refine x_newa (t := 0) (N := 10) (ty := .int) (x := (10, .inl (fun _ => 0))) dX7_init_15 rfl rfl (by simp) ac_int (fun _ => rfl) rfl (by decide) (by decide) (by decide) (fun h119 q120 ea121 a122 e123 l124 s125 => ?_)
  have lm126 := sm118.2.1
  have f127 := (e123 25 (by have := lt_at a113; omega)).trans a113
  have f128 := (e123 26 (by have := lt_at f117; omega)).trans f117
  have sm129 := Gr.new sm118 ea121 e123 l124 s125
  have el130 : q120 = 27 := by omega
  subst el130
  refine x_put (fs2 := [.ref 26, .ref 27, .null, .null, .null, .null, .int 0]) dX7_init_17 fX7_15 (Or.inr ⟨rfl, _, rfl, rfl⟩) f127 (by decide) rfl rfl (Nat.le_of_ble_eq_true rfl) rfl (fun h131 a132 e133 l134 s135 => ?_)
  have f136 := (e133 26 (by decide)).trans f128
  have f137 := (e133 27 (by decide)).trans a122
  have sm138 := Gr.put sm129 e133 l134 s135 (Or.inl (by decide))
  refine x_aload_n dX7_init_20 0 rfl ?_
  refine x_bipush (v := 10) dX7_init_21 (by decide) ?_
  refine x_newa (t := 0) (N := 10) (ty := .int) (x := (10, .inl (fun _ => 0))) dX7_init_23 rfl rfl (by simp) ac_int (fun _ => rfl) rfl (by decide) (by decide) (by decide) (fun h139 q140 ea141 a142 e143 l144 s145 => ?_)
  have lm146 := sm138.2.1
  have f147 := (e143 25 (by have := lt_at a132; omega)).trans a132
  have f148 := (e143 26 (by have := lt_at f136; omega)).trans f136
  have f149 := (e143 27 (by have := lt_at f137; omega)).trans f137
  have sm150 := Gr.new sm138 ea141 e143 l144 s145
  have el151 : q140 = 28 := by omega
  subst el151
  refine x_put (fs2 := [.ref 26, .ref 27, .ref 28, .null, .null, .null, .int 0]) dX7_init_25 fX7_18 (Or.inr ⟨rfl, _, rfl, rfl⟩) f147 (by decide) rfl rfl (Nat.le_of_ble_eq_true rfl) rfl (fun h152 a153 e154 l155 s156 => ?_)
  have f157 := (e154 26 (by decide)).trans f148
  have f158 := (e154 27 (by decide)).trans f149
  have f159 := (e154 28 (by decide)).trans a142
  have sm160 := Gr.put sm150 e154 l155 s156 (Or.inl (by decide))
  refine x_aload_n dX7_init_28 0 rfl ?_
  refine x_bipush (v := 10) dX7_init_29 (by decide) ?_
  refine x_newa (t := 0) (N := 10) (ty := .int) (x := (10, .inl (fun _ => 0))) dX7_init_31 rfl rfl (by simp) ac_int (fun _ => rfl) rfl (by decide) (by decide) (by decide) (fun h161 q162 ea163 a164 e165 l166 s167 => ?_)
  have lm168 := sm160.2.1
  have f169 := (e165 25 (by have := lt_at a153; omega)).trans a153
  have f170 := (e165 26 (by have := lt_at f157; omega)).trans f157
  have f171 := (e165 27 (by have := lt_at f158; omega)).trans f158
  have f172 := (e165 28 (by have := lt_at f159; omega)).trans f159
  have sm173 := Gr.new sm160 ea163 e165 l166 s167
  have el174 : q162 = 29 := by omega
  subst el174
  refine x_put (fs2 := [.ref 26, .ref 27, .ref 28, .ref 29, .null, .null, .int 0]) dX7_init_33 fX7_21 (Or.inr ⟨rfl, _, rfl, rfl⟩) f169 (by decide) rfl rfl (Nat.le_of_ble_eq_true rfl) rfl (fun h175 a176 e177 l178 s179 => ?_)
  have f180 := (e177 26 (by decide)).trans f170
  have f181 := (e177 27 (by decide)).trans f171
  have f182 := (e177 28 (by decide)).trans f172
  have f183 := (e177 29 (by decide)).trans a164
  have sm184 := Gr.put sm173 e177 l178 s179 (Or.inl (by decide))
  refine x_aload_n dX7_init_36 0 rfl ?_
  refine x_bipush (v := 6) dX7_init_37 (by decide) ?_
  refine x_newa (t := 0) (N := 6) (ty := .int) (x := (6, .inl (fun _ => 0))) dX7_init_39 rfl rfl (by simp) ac_int (fun _ => rfl) rfl (by decide) (by decide) (by decide) (fun h185 q186 ea187 a188 e189 l190 s191 => ?_)
  have lm192 := sm184.2.1
  have f193 := (e189 25 (by have := lt_at a176; omega)).trans a176
  have f194 := (e189 26 (by have := lt_at f180; omega)).trans f180
  have f195 := (e189 27 (by have := lt_at f181; omega)).trans f181
  have f196 := (e189 28 (by have := lt_at f182; omega)).trans f182
  have f197 := (e189 29 (by have := lt_at f183; omega)).trans f183
  have sm198 := Gr.new sm184 ea187 e189 l190 s191
  have el199 : q186 = 30 := by omega
  subst el199
  refine x_put (fs2 := [.ref 26, .ref 27, .ref 28, .ref 29, .ref 30, .null, .int 0]) dX7_init_41 fX7_24 (Or.inr ⟨rfl, _, rfl, rfl⟩) f193 (by decide) rfl rfl (Nat.le_of_ble_eq_true rfl) rfl (fun h200 a201 e202 l203 s204 => ?_)
  have f205 := (e202 26 (by decide)).trans f194
  have f206 := (e202 27 (by decide)).trans f195
  have f207 := (e202 28 (by decide)).trans f196
  have f208 := (e202 29 (by decide)).trans f197
  have f209 := (e202 30 (by decide)).trans a188
  have sm210 := Gr.put sm198 e202 l203 s204 (Or.inl (by decide))
  refine x_aload_n dX7_init_44 0 rfl ?_
  refine x_bipush (v := 6) dX7_init_45 (by decide) ?_
  refine x_newa (t := 0) (N := 6) (ty := .int) (x := (6, .inl (fun _ => 0))) dX7_init_47 rfl rfl (by simp) ac_int (fun _ => rfl) rfl (by decide) (by decide) (by decide) (fun h211 q212 ea213 a214 e215 l216 s217 => ?_)
  have lm218 := sm210.2.1
  have f219 := (e215 25 (by have := lt_at a201; omega)).trans a201
  have f220 := (e215 26 (by have := lt_at f205; omega)).trans f205
  have f221 := (e215 27 (by have := lt_at f206; omega)).trans f206
  have f222 := (e215 28 (by have := lt_at f207; omega)).trans f207
  have f223 := (e215 29 (by have := lt_at f208; omega)).trans f208
  have f224 := (e215 30 (by have := lt_at f209; omega)).trans f209
  have sm225 := Gr.new sm210 ea213 e215 l216 s217
  have el226 : q212 = 31 := by omega
  subst el226
  refine x_put (fs2 := [.ref 26, .ref 27, .ref 28, .ref 29, .ref 30, .ref 31, .int 0]) dX7_init_49 fX7_27 (Or.inr ⟨rfl, _, rfl, rfl⟩) f219 (by decide) rfl rfl (Nat.le_of_ble_eq_true rfl) rfl (fun h227 a228 e229 l230 s231 => ?_)
  have f232 := (e229 26 (by decide)).trans f220
  have f233 := (e229 27 (by decide)).trans f221
  have f234 := (e229 28 (by decide)).trans f222
  have f235 := (e229 29 (by decide)).trans f223
  have f236 := (e229 30 (by decide)).trans f224
  have f237 := (e229 31 (by decide)).trans a214
  have sm238 := Gr.put sm225 e229 l230 s231 (Or.inl (by decide))
  refine x_aload_n dX7_init_52 0 rfl ?_
  refine x_iconst (v := 0) dX7_init_53 (by decide) ?_
  refine x_put (fs2 := [.ref 26, .ref 27, .ref 28, .ref 29, .ref 30, .ref 31, .int 0]) dX7_init_54 fX7_30 (Or.inl rfl) a228 (by decide) rfl rfl (Nat.le_of_ble_eq_true rfl) rfl (fun h239 a240 e241 l242 s243 => ?_)
  have f244 := (e241 26 (by decide)).trans f232
  have f245 := (e241 27 (by decide)).trans f233
  have f246 := (e241 28 (by decide)).trans f234
  have f247 := (e241 29 (by decide)).trans f235
  have f248 := (e241 30 (by decide)).trans f236
  have f249 := (e241 31 (by decide)).trans f237
  have sm250 := Gr.put sm238 e241 l242 s243 (Or.inl (by decide))
  refine x_iconst (v := 0) dX7_init_57 (by decide) ?_
  refine x_istore_n (lv2 := [(1, .int 0), (0, .ref 25)]) dX7_init_58 (by decide) rfl ?_
  refine x_iload_n dX7_init_59 0 rfl ?_
  refine x_bipush (v := 6) dX7_init_60 (by decide) ?_
  refine x_icmp_ge (tgt := 78) dX7_init_62 (by decide) (fun c_62 => absurd c_62 (by decide)) (fun c_62 => ?_)
  refine x_aload_n dX7_init_65 1 rfl ?_
  refine x_get (v := .ref 31) dX7_init_66 fX7_27 a240 (by decide) rfl ?_
  refine x_iload_n dX7_init_69 0 rfl ?_
  refine x_iconst (v := (-1)) dX7_init_70 (by decide) ?_
  refine x_iastN (i := 0) dX7_init_71 f249 (by decide) (by omega) (by decide) (fun h251 a252 e253 l254 s255 => ?_)
  have f256 := (e253 25 (by decide)).trans a240
  have f257 := (e253 26 (by decide)).trans f244
  have f258 := (e253 27 (by decide)).trans f245
  have f259 := (e253 28 (by decide)).trans f246
  have f260 := (e253 29 (by decide)).trans f247
  have f261 := (e253 30 (by decide)).trans f248
  have sm262 := Gr.put sm250 e253 l254 s255 (Or.inr (by omega))
  refine x_iinc (lv2 := [(1, .int 1), (0, .ref 25)]) dX7_init_72 0 rfl (by decide) (by decide) rfl ?_
  refine x_goto (tgt := 59) dX7_init_75 (by decide) ?_
  refine x_iload_n dX7_init_59 0 rfl ?_
  refine x_bipush (v := 6) dX7_init_60 (by decide) ?_
  refine x_icmp_ge (tgt := 78) dX7_init_62 (by decide) (fun c_62 => absurd c_62 (by decide)) (fun c_62 => ?_)
  refine x_aload_n dX7_init_65 1 rfl ?_
  refine x_get (v := .ref 31) dX7_init_66 fX7_27 f256 (by decide) rfl ?_
  refine x_iload_n dX7_init_69 0 rfl ?_
  refine x_iconst (v := (-1)) dX7_init_70 (by decide) ?_
  refine x_iastN (i := 1) dX7_init_71 a252 (by decide) (by omega) (by decide) (fun h263 a264 e265 l266 s267 => ?_)
  have f268 := (e265 25 (by decide)).trans f256
  have f269 := (e265 26 (by decide)).trans f257
  have f270 := (e265 27 (by decide)).trans f258
  have f271 := (e265 28 (by decide)).trans f259
  have f272 := (e265 29 (by decide)).trans f260
  have f273 := (e265 30 (by decide)).trans f261
  have sm274 := Gr.put sm262 e265 l266 s267 (Or.inr (by omega))
  refine x_iinc (lv2 := [(1, .int 2), (0, .ref 25)]) dX7_init_72 0 rfl (by decide) (by decide) rfl ?_
  refine x_goto (tgt := 59) dX7_init_75 (by decide) ?_
  refine x_iload_n dX7_init_59 0 rfl ?_
  refine x_bipush (v := 6) dX7_init_60 (by decide) ?_
  refine x_icmp_ge (tgt := 78) dX7_init_62 (by decide) (fun c_62 => absurd c_62 (by decide)) (fun c_62 => ?_)
  refine x_aload_n dX7_init_65 1 rfl ?_
  refine x_get (v := .ref 31) dX7_init_66 fX7_27 f268 (by decide) rfl ?_
  refine x_iload_n dX7_init_69 0 rfl ?_
  refine x_iconst (v := (-1)) dX7_init_70 (by decide) ?_
  refine x_iastN (i := 2) dX7_init_71 a264 (by decide) (by omega) (by decide) (fun h275 a276 e277 l278 s279 => ?_)
  have f280 := (e277 25 (by decide)).trans f268
  have f281 := (e277 26 (by decide)).trans f269
  have f282 := (e277 27 (by decide)).trans f270
  have f283 := (e277 28 (by decide)).trans f271
  have f284 := (e277 29 (by decide)).trans f272
  have f285 := (e277 30 (by decide)).trans f273
  have sm286 := Gr.put sm274 e277 l278 s279 (Or.inr (by omega))
  refine x_iinc (lv2 := [(1, .int 3), (0, .ref 25)]) dX7_init_72 0 rfl (by decide) (by decide) rfl ?_
  refine x_goto (tgt := 59) dX7_init_75 (by decide) ?_
  refine x_iload_n dX7_init_59 0 rfl ?_
  refine x_bipush (v := 6) dX7_init_60 (by decide) ?_
  refine x_icmp_ge (tgt := 78) dX7_init_62 (by decide) (fun c_62 => absurd c_62 (by decide)) (fun c_62 => ?_)
  refine x_aload_n dX7_init_65 1 rfl ?_
  refine x_get (v := .ref 31) dX7_init_66 fX7_27 f280 (by decide) rfl ?_
  refine x_iload_n dX7_init_69 0 rfl ?_
  refine x_iconst (v := (-1)) dX7_init_70 (by decide) ?_
  refine x_iastN (i := 3) dX7_init_71 a276 (by decide) (by omega) (by decide) (fun h287 a288 e289 l290 s291 => ?_)
  have f292 := (e289 25 (by decide)).trans f280
  have f293 := (e289 26 (by decide)).trans f281
  have f294 := (e289 27 (by decide)).trans f282
  have f295 := (e289 28 (by decide)).trans f283
  have f296 := (e289 29 (by decide)).trans f284
  have f297 := (e289 30 (by decide)).trans f285
  have sm298 := Gr.put sm286 e289 l290 s291 (Or.inr (by omega))
  refine x_iinc (lv2 := [(1, .int 4), (0, .ref 25)]) dX7_init_72 0 rfl (by decide) (by decide) rfl ?_
  refine x_goto (tgt := 59) dX7_init_75 (by decide) ?_
  refine x_iload_n dX7_init_59 0 rfl ?_
  refine x_bipush (v := 6) dX7_init_60 (by decide) ?_
  refine x_icmp_ge (tgt := 78) dX7_init_62 (by decide) (fun c_62 => absurd c_62 (by decide)) (fun c_62 => ?_)
  refine x_aload_n dX7_init_65 1 rfl ?_
  refine x_get (v := .ref 31) dX7_init_66 fX7_27 f292 (by decide) rfl ?_
  refine x_iload_n dX7_init_69 0 rfl ?_
  refine x_iconst (v := (-1)) dX7_init_70 (by decide) ?_
  refine x_iastN (i := 4) dX7_init_71 a288 (by decide) (by omega) (by decide) (fun h299 a300 e301 l302 s303 => ?_)
  have f304 := (e301 25 (by decide)).trans f292
  have f305 := (e301 26 (by decide)).trans f293
  have f306 := (e301 27 (by decide)).trans f294
  have f307 := (e301 28 (by decide)).trans f295
  have f308 := (e301 29 (by decide)).trans f296
  have f309 := (e301 30 (by decide)).trans f297
  have sm310 := Gr.put sm298 e301 l302 s303 (Or.inr (by omega))
  refine x_iinc (lv2 := [(1, .int 5), (0, .ref 25)]) dX7_init_72 0 rfl (by decide) (by decide) rfl ?_
  refine x_goto (tgt := 59) dX7_init_75 (by decide) ?_
  refine x_iload_n dX7_init_59 0 rfl ?_
  refine x_bipush (v := 6) dX7_init_60 (by decide) ?_
  refine x_icmp_ge (tgt := 78) dX7_init_62 (by decide) (fun c_62 => absurd c_62 (by decide)) (fun c_62 => ?_)
  refine x_aload_n dX7_init_65 1 rfl ?_
  refine x_get (v := .ref 31) dX7_init_66 fX7_27 f304 (by decide) rfl ?_
  refine x_iload_n dX7_init_69 0 rfl ?_
  refine x_iconst (v := (-1)) dX7_init_70 (by decide) ?_
  refine x_iastN (i := 5) dX7_init_71 a300 (by decide) (by omega) (by decide) (fun h311 a312 e313 l314 s315 => ?_)
  have f316 := (e313 25 (by decide)).trans f304
  have f317 := (e313 26 (by decide)).trans f305
  have f318 := (e313 27 (by decide)).trans f306
  have f319 := (e313 28 (by decide)).trans f307
  have f320 := (e313 29 (by decide)).trans f308
  have f321 := (e313 30 (by decide)).trans f309
  have sm322 := Gr.put sm310 e313 l314 s315 (Or.inr (by omega))
  refine x_iinc (lv2 := [(1, .int 6), (0, .ref 25)]) dX7_init_72 0 rfl (by decide) (by decide) rfl ?_
  refine x_goto (tgt := 59) dX7_init_75 (by decide) ?_
  refine x_iload_n dX7_init_59 0 rfl ?_
  refine x_bipush (v := 6) dX7_init_60 (by decide) ?_
  refine x_icmp_ge (tgt := 78) dX7_init_62 (by decide) (fun c_62 => ?_) (fun c_62 => absurd (by decide) c_62)
  exact x_vret dX7_init_78 rfl ⟨rfl, by show h311.length = _; omega, f316, f317, f318, f319, f320, f321, a312, sm322⟩

set_option maxRecDepth 100000 in
set_option maxHeartbeats 4000000 in
theorem c_X3_init {G : GT} {h : List PE} (hl : h.length = 33) (fq : h[32]? = some (cO 3 [.null, .null, .int 0, .int 0, .int 0])) : CT G mX3_init 1 20 [.ref 32] h (fun o => o.1 = none ∧ o.2.length = 35 ∧ o.2[32]? = some (cO 3 [.ref 33, .ref 34, .int 0, .int 0, .int 0]) ∧ o.2[33]? = some (cI 8 ((fun _ => 0))) ∧ o.2[34]? = some (cI 8 ((fun _ => 0))) ∧ Gr 33 [32] 2 16 h o.2) := by
  have sm0 : Gr 33 [32] 0 0 h h := Gr.rf
  show X (NF G) G mX3_init 1 20 0 [(0, .ref 32)] [] h _
  refine x_aload_n dX3_init_0 0 rfl ?_
  refine x_objInit dX3_init_1 oX3_3 oI_inst oI_code (by decide) (Nat.le_of_ble_eq_true rfl) ?_
  refine x_aload_n dX3_init_4 0 rfl ?_
  refine x_bipush (v := 8) dX3_init_5 (by decide) ?_
  refine x_newa (t := 0) (N := 8) (ty := .int) (x := (8, .inl (fun _ => 0))) dX3_init_7 rfl rfl (by simp) ac_int (fun _ => rfl) rfl (by decide) (by decide) (by decide) (fun h101 q102 ea103 a104 e105 l106 s107 => ?_)
  have lm108 := sm0.2.1
  have f109 := (e105 32 (by have := lt_at fq; omega)).trans fq
  have sm110 := Gr.new sm0 ea103 e105 l106 s107
  have el111 : q102 = 33 := by omega
  subst el111
  refine x_put (fs2 := [.ref 33, .null, .int 0, .int 0, .int 0]) dX3_init_9 fX3_11 (Or.inr ⟨rfl, _, rfl, rfl⟩) f109 (by decide) rfl rfl (Nat.le_of_ble_eq_true rfl) rfl (fun h112 a113 e114 l115 s116 => ?_)
  have f117 := (e114 33 (by decide)).trans a104
  have sm118 := Gr.put sm110 e114 l115 s116 (Or.inl (by decide))
  refine x_aload_n dX3_init_12 0 rfl ?_
  refine x_bipush (v := 8) dX3_init_13 (by decide) ?_
  refine x_newa (t := 0) (N := 8) (ty := .int) (x := (8, .inl (fun _ => 0))) dX3_init_15 rfl rfl (by simp) ac_int (fun _ => rfl) rfl (by decide) (by decide) (by decide) (fun h119 q120 ea121 a122 e123 l124 s125 => ?_)
  have lm126 := sm118.2.1
  have f127 := (e123 32 (by have := lt_at a113; omega)).trans a113
  have f128 := (e123 33 (by have := lt_at f117; omega)).trans f117
  have sm129 := Gr.new sm118 ea121 e123 l124 s125
  have el130 : q120 = 34 := by omega
  subst el130
  refine x_put (fs2 := [.ref 33, .ref 34, .int 0, .int 0, .int 0]) dX3_init_17 fX3_17 (Or.inr ⟨rfl, _, rfl, rfl⟩) f127 (by decide) rfl rfl (Nat.le_of_ble_eq_true rfl) rfl (fun h131 a132 e133 l134 s135 => ?_)
  have f136 := (e133 33 (by decide)).trans f128
  have f137 := (e133 34 (by decide)).trans a122
  have sm138 := Gr.put sm129 e133 l134 s135 (Or.inl (by decide))
  refine x_aload_n dX3_init_20 0 rfl ?_
  refine x_iconst (v := 0) dX3_init_21 (by decide) ?_
  refine x_put (fs2 := [.ref 33, .ref 34, .int 0, .int 0, .int 0]) dX3_init_22 fX3_20 (Or.inl rfl) a132 (by decide) rfl rfl (Nat.le_of_ble_eq_true rfl) rfl (fun h139 a140 e141 l142 s143 => ?_)
  have f144 := (e141 33 (by decide)).trans f136
  have f145 := (e141 34 (by decide)).trans f137
  have sm146 := Gr.put sm138 e141 l142 s143 (Or.inl (by decide))
  refine x_aload_n dX3_init_25 0 rfl ?_
  refine x_iconst (v := 0) dX3_init_26 (by decide) ?_
  refine x_put (fs2 := [.ref 33, .ref 34, .int 0, .int 0, .int 0]) dX3_init_27 fX3_24 (Or.inl rfl) a140 (by decide) rfl rfl (Nat.le_of_ble_eq_true rfl) rfl (fun h147 a148 e149 l150 s151 => ?_)
  have f152 := (e149 33 (by decide)).trans f144
  have f153 := (e149 34 (by decide)).trans f145
  have sm154 := Gr.put sm146 e149 l150 s151 (Or.inl (by decide))
  refine x_aload_n dX3_init_30 0 rfl ?_
  refine x_iconst (v := 0) dX3_init_31 (by decide) ?_
  refine x_put (fs2 := [.ref 33, .ref 34, .int 0, .int 0, .int 0]) dX3_init_32 fX3_27 (Or.inl rfl) a148 (by decide) rfl rfl (Nat.le_of_ble_eq_true rfl) rfl (fun h155 a156 e157 l158 s159 => ?_)
  have f160 := (e157 33 (by decide)).trans f152
  have f161 := (e157 34 (by decide)).trans f153
  have sm162 := Gr.put sm154 e157 l158 s159 (Or.inl (by decide))
  exact x_vret dX3_init_35 rfl ⟨rfl, by show h155.length = _; omega, a156, f160, f161, sm162⟩

set_option maxRecDepth 100000 in
set_option maxHeartbeats 4000000 in
theorem c_X12_init {G : GT} {h : List PE} (hl : h.length = 37) (fq : h[36]? = some (cO 12 [.int 0, .null, .null, .null, .int 0, .int 0, .int 0, .int 0, .int 0, .int 0, .int 0, .int 0, .int 0, .int 0, .int 0, .long 0, .int 0, .null, .int 0, .null, .null, .int 0, .int 0, .int 0, .int 0, .int 0, .null, .null, .null, .null, .null, .null, .null, .int 0, .int 0])) : CT G mX12_init 1 20 [.ref 36] h (fun o => o.1 = none ∧ o.2.length = 50 ∧ o.2[36]? = some (cO 12 (MO 0 0 0 0 0 0 0 0 0 0 0 0 0 0 0 0 0 0 0 ((-1)) 0 0)) ∧ o.2[37]? = some (cI 640 ((fun _ => 0))) ∧ o.2[38]? = some (cI 10164 ((fun _ => 0))) ∧ o.2[39]? = some (cI 20 ((fun _ => 0))) ∧ o.2[40]? = some (cJ 24 ((fun _ => 0))) ∧ o.2[41]? = some (cI 96 ((fun _ => 0))) ∧ o.2[42]? = some (cJ 96 ((fun _ => 0))) ∧ o.2[43]? = some (cI 6 ((fun _ => 0))) ∧ o.2[44]? = some (cI 10 ((fun _ => 0))) ∧ o.2[45]? = some (cI 10 ((fun _ => 0))) ∧ o.2[46]? = some (cI 10 ((fun _ => 0))) ∧ o.2[47]? = some (cI 6 ((fun _ => 0))) ∧ o.2[48]? = some (cI 6 ((fun _ => 0))) ∧ o.2[49]? = some (cZ 10 ((fun _ => 0))) ∧ Gr 37 [36] 13 11098 h o.2) := by
  have sm0 : Gr 37 [36] 0 0 h h := Gr.rf
  show X (NF G) G mX12_init 1 20 0 [(0, .ref 36)] [] h _
  refine x_aload_n dX12_init_0 0 rfl ?_
  refine x_objInit dX12_init_1 oX12_1 oI_inst oI_code (by decide) (Nat.le_of_ble_eq_true rfl) ?_
  refine x_aload_n dX12_init_4 0 rfl ?_
  refine x_sipush (v := 640) dX12_init_5 (by decide) ?_
  refine x_newa (t := 0) (N := 640) (ty := .int) (x := (640, .inl (fun _ => 0))) dX12_init_8 rfl rfl (by simp) ac_int (fun _ => rfl) rfl (by decide) (by decide) (by decide) (fun h101 q102 ea103 a104 e105 l106 s107 => ?_)
  have lm108 := sm0.2.1
  have f109 := (e105 36 (by have := lt_at fq; omega)).trans fq
  have sm110 := Gr.new sm0 ea103 e105 l106 s107
  have el111 : q102 = 37 := by omega
  subst el111
  refine x_put (fs2 := [.int 0, .ref 37, .null, .null, .int 0, .int 0, .int 0, .int 0, .int 0, .int 0, .int 0, .int 0, .int 0, .int 0, .int 0, .long 0, .int 0, .null, .int 0, .null, .null, .int 0, .int 0, .int 0, .int 0, .int 0, .null, .null, .null, .null, .null, .null, .null, .int 0, .int 0]) dX12_init_10 fX12_7 (Or.inr ⟨rfl, _, rfl, rfl⟩) f109 (by decide) rfl rfl (Nat.le_of_ble_eq_true rfl) rfl (fun h112 a113 e114 l115 s116 => ?_)
  have f117 := (e114 37 (by decide)).trans a104
  have sm118 := Gr.put sm110 e114 l115 s116 (Or.inl (by decide))
  refine x_aload_n dX12_init_13 0 rfl ?_
  refine x_sipush (v := 10164) dX12_init_14 (by decide) ?_
  refine x_newa (t := 0) (N := 10164) (ty := .int) (x := (10164, .inl (fun _ => 0))) dX12_init_17 rfl rfl (by simp) ac_int (fun _ => rfl) rfl (by decide) (by decide) (by decide) (fun h119 q120 ea121 a122 e123 l124 s125 => ?_)
  have lm126 := sm118.2.1
  have f127 := (e123 36 (by have := lt_at a113; omega)).trans a113
  have f128 := (e123 37 (by have := lt_at f117; omega)).trans f117
  have sm129 := Gr.new sm118 ea121 e123 l124 s125
  have el130 : q120 = 38 := by omega
  subst el130
  refine x_put (fs2 := [.int 0, .ref 37, .ref 38, .null, .int 0, .int 0, .int 0, .int 0, .int 0, .int 0, .int 0, .int 0, .int 0, .int 0, .int 0, .long 0, .int 0, .null, .int 0, .null, .null, .int 0, .int 0, .int 0, .int 0, .int 0, .null, .null, .null, .null, .null, .null, .null, .int 0, .int 0]) dX12_init_19 fX12_13 (Or.inr ⟨rfl, _, rfl, rfl⟩) f127 (by decide) rfl rfl (Nat.le_of_ble_eq_true rfl) rfl (fun h131 a132 e133 l134 s135 => ?_)
  have f136 := (e133 37 (by decide)).trans f128
  have f137 := (e133 38 (by decide)).trans a122
  have sm138 := Gr.put sm129 e133 l134 s135 (Or.inl (by decide))
  refine x_aload_n dX12_init_22 0 rfl ?_
  refine x_bipush (v := 20) dX12_init_23 (by decide) ?_
  refine x_newa (t := 0) (N := 20) (ty := .int) (x := (20, .inl (fun _ => 0))) dX12_init_25 rfl rfl (by simp) ac_int (fun _ => rfl) rfl (by decide) (by decide) (by decide) (fun h139 q140 ea141 a142 e143 l144 s145 => ?_)
  have lm146 := sm138.2.1
  have f147 := (e143 36 (by have := lt_at a132; omega)).trans a132
  have f148 := (e143 37 (by have := lt_at f136; omega)).trans f136
  have f149 := (e143 38 (by have := lt_at f137; omega)).trans f137
  have sm150 := Gr.new sm138 ea141 e143 l144 s145
  have el151 : q140 = 39 := by omega
  subst el151
  refine x_put (fs2 := [.int 0, .ref 37, .ref 38, .ref 39, .int 0, .int 0, .int 0, .int 0, .int 0, .int 0, .int 0, .int 0, .int 0, .int 0, .int 0, .long 0, .int 0, .null, .int 0, .null, .null, .int 0, .int 0, .int 0, .int 0, .int 0, .null, .null, .null, .null, .null, .null, .null, .int 0, .int 0]) dX12_init_27 fX12_16 (Or.inr ⟨rfl, _, rfl, rfl⟩) f147 (by decide) rfl rfl (Nat.le_of_ble_eq_true rfl) rfl (fun h152 a153 e154 l155 s156 => ?_)
  have f157 := (e154 37 (by decide)).trans f148
  have f158 := (e154 38 (by decide)).trans f149
  have f159 := (e154 39 (by decide)).trans a142
  have sm160 := Gr.put sm150 e154 l155 s156 (Or.inl (by decide))
  refine x_aload_n dX12_init_30 0 rfl ?_
  refine x_bipush (v := 24) dX12_init_31 (by decide) ?_
  refine x_newa (t := 1) (N := 24) (ty := .long) (x := (24, .inr (.inl (fun _ => 0)))) dX12_init_33 rfl rfl (by simp) ac_long (fun _ => rfl) rfl (by decide) (by decide) (by decide) (fun h161 q162 ea163 a164 e165 l166 s167 => ?_)
  have lm168 := sm160.2.1
  have f169 := (e165 36 (by have := lt_at a153; omega)).trans a153
  have f170 := (e165 37 (by have := lt_at f157; omega)).trans f157
  have f171 := (e165 38 (by have := lt_at f158; omega)).trans f158
  have f172 := (e165 39 (by have := lt_at f159; omega)).trans f159
  have sm173 := Gr.new sm160 ea163 e165 l166 s167
  have el174 : q162 = 40 := by omega
  subst el174
  refine x_put (fs2 := [.int 0, .ref 37, .ref 38, .ref 39, .int 0, .int 0, .int 0, .int 0, .int 0, .int 0, .int 0, .int 0, .int 0, .int 0, .int 0, .long 0, .int 0, .ref 40, .int 0, .null, .null, .int 0, .int 0, .int 0, .int 0, .int 0, .null, .null, .null, .null, .null, .null, .null, .int 0, .int 0]) dX12_init_35 fX12_19 (Or.inr ⟨rfl, _, rfl, rfl⟩) f169 (by decide) rfl rfl (Nat.le_of_ble_eq_true rfl) rfl (fun h175 a176 e177 l178 s179 => ?_)
  have f180 := (e177 37 (by decide)).trans f170
  have f181 := (e177 38 (by decide)).trans f171
  have f182 := (e177 39 (by decide)).trans f172
  have f183 := (e177 40 (by decide)).trans a164
  have sm184 := Gr.put sm173 e177 l178 s179 (Or.inl (by decide))
  refine x_aload_n dX12_init_38 0 rfl ?_
  refine x_bipush (v := 96) dX12_init_39 (by decide) ?_
  refine x_newa (t := 0) (N := 96) (ty := .int) (x := (96, .inl (fun _ => 0))) dX12_init_41 rfl rfl (by simp) ac_int (fun _ => rfl) rfl (by decide) (by decide) (by decide) (fun h185 q186 ea187 a188 e189 l190 s191 => ?_)
  have lm192 := sm184.2.1
  have f193 := (e189 36 (by have := lt_at a176; omega)).trans a176
  have f194 := (e189 37 (by have := lt_at f180; omega)).trans f180
  have f195 := (e189 38 (by have := lt_at f181; omega)).trans f181
  have f196 := (e189 39 (by have := lt_at f182; omega)).trans f182
  have f197 := (e189 40 (by have := lt_at f183; omega)).trans f183
  have sm198 := Gr.new sm184 ea187 e189 l190 s191
  have el199 : q186 = 41 := by omega
  subst el199
  refine x_put (fs2 := [.int 0, .ref 37, .ref 38, .ref 39, .int 0, .int 0, .int 0, .int 0, .int 0, .int 0, .int 0, .int 0, .int 0, .int 0, .int 0, .long 0, .int 0, .ref 40, .int 0, .ref 41, .null, .int 0, .int 0, .int 0, .int 0, .int 0, .null, .null, .null, .null, .null, .null, .null, .int 0, .int 0]) dX12_init_43 fX12_23 (Or.inr ⟨rfl, _, rfl, rfl⟩) f193 (by decide) rfl rfl (Nat.le_of_ble_eq_true rfl) rfl (fun h200 a201 e202 l203 s204 => ?_)
  have f205 := (e202 37 (by decide)).trans f194
  have f206 := (e202 38 (by decide)).trans f195
  have f207 := (e202 39 (by decide)).trans f196
  have f208 := (e202 40 (by decide)).trans f197
  have f209 := (e202 41 (by decide)).trans a188
  have sm210 := Gr.put sm198 e202 l203 s204 (Or.inl (by decide))
  refine x_aload_n dX12_init_46 0 rfl ?_
  refine x_bipush (v := 96) dX12_init_47 (by decide) ?_
  refine x_newa (t := 1) (N := 96) (ty := .long) (x := (96, .inr (.inl (fun _ => 0)))) dX12_init_49 rfl rfl (by simp) ac_long (fun _ => rfl) rfl (by decide) (by decide) (by decide) (fun h211 q212 ea213 a214 e215 l216 s217 => ?_)
  have lm218 := sm210.2.1
  have f219 := (e215 36 (by have := lt_at a201; omega)).trans a201
  have f220 := (e215 37 (by have := lt_at f205; omega)).trans f205
  have f221 := (e215 38 (by have := lt_at f206; omega)).trans f206
  have f222 := (e215 39 (by have := lt_at f207; omega)).trans f207
  have f223 := (e215 40 (by have := lt_at f208; omega)).trans f208
  have f224 := (e215 41 (by have := lt_at f209; omega)).trans f209
  have sm225 := Gr.new sm210 ea213 e215 l216 s217
  have el226 : q212 = 42 := by omega
  subst el226
  refine x_put (fs2 := [.int 0, .ref 37, .ref 38, .ref 39, .int 0, .int 0, .int 0, .int 0, .int 0, .int 0, .int 0, .int 0, .int 0, .int 0, .int 0, .long 0, .int 0, .ref 40, .int 0, .ref 41, .ref 42, .int 0, .int 0, .int 0, .int 0, .int 0, .null, .null, .null, .null, .null, .null, .null, .int 0, .int 0]) dX12_init_51 fX12_26 (Or.inr ⟨rfl, _, rfl, rfl⟩) f219 (by decide) rfl rfl (Nat.le_of_ble_eq_true rfl) rfl (fun h227 a228 e229 l230 s231 => ?_)
  have f232 := (e229 37 (by decide)).trans f220
  have f233 := (e229 38 (by decide)).trans f221
  have f234 := (e229 39 (by decide)).trans f222
  have f235 := (e229 40 (by decide)).trans f223
  have f236 := (e229 41 (by decide)).trans f224
  have f237 := (e229 42 (by decide)).trans a214
  have sm238 := Gr.put sm225 e229 l230 s231 (Or.inl (by decide))
  refine x_aload_n dX12_init_54 0 rfl ?_
  refine x_iconst (v := (-1)) dX12_init_55 (by decide) ?_
  refine x_put (fs2 := [.int 0, .ref 37, .ref 38, .ref 39, .int 0, .int 0, .int 0, .int 0, .int 0, .int 0, .int 0, .int 0, .int 0, .int 0, .int 0, .long 0, .int 0, .ref 40, .int 0, .ref 41, .ref 42, .int 0, .int 0, .int 0, .int 0, .int (-1), .null, .null, .null, .null, .null, .null, .null, .int 0, .int 0]) dX12_init_56 fX12_29 (Or.inl rfl) a228 (by decide) rfl rfl (Nat.le_of_ble_eq_true rfl) rfl (fun h239 a240 e241 l242 s243 => ?_)
  have f244 := (e241 37 (by decide)).trans f232
  have f245 := (e241 38 (by decide)).trans f233
  have f246 := (e241 39 (by decide)).trans f234
  have f247 := (e241 40 (by decide)).trans f235
  have f248 := (e241 41 (by decide)).trans f236
  have f249 := (e241 42 (by decide)).trans f237
  have sm250 := Gr.put sm238 e241 l242 s243 (Or.inl (by decide))
  refine x_aload_n dX12_init_59 0 rfl ?_
  refine x_bipush (v := 6) dX12_init_60 (by decide) ?_
  refine x_newa (t := 0) (N := 6) (ty := .int) (x := (6, .inl (fun _ => 0))) dX12_init_62 rfl rfl (by simp) ac_int (fun _ => rfl) rfl (by decide) (by decide) (by decide) (fun h251 q252 ea253 a254 e255 l256 s257 => ?_)
  have lm258 := sm250.2.1
  have f259 := (e255 36 (by have := lt_at a240; omega)).trans a240
  have f260 := (e255 37 (by have := lt_at f244; omega)).trans f244
  have f261 := (e255 38 (by have := lt_at f245; omega)).trans f245
  have f262 := (e255 39 (by have := lt_at f246; omega)).trans f246
  have f263 := (e255 40 (by have := lt_at f247; omega)).trans f247
  have f264 := (e255 41 (by have := lt_at f248; omega)).trans f248
  have f265 := (e255 42 (by have := lt_at f249; omega)).trans f249
  have sm266 := Gr.new sm250 ea253 e255 l256 s257
  have el267 : q252 = 43 := by omega
  subst el267
  refine x_put (fs2 := [.int 0, .ref 37, .ref 38, .ref 39, .int 0, .int 0, .int 0, .int 0, .int 0, .int 0, .int 0, .int 0, .int 0, .int 0, .int 0, .long 0, .int 0, .ref 40, .int 0, .ref 41, .ref 42, .int 0, .int 0, .int 0, .int 0, .int (-1), .ref 43, .null, .null, .null, .null, .null, .null, .int 0, .int 0]) dX12_init_64 fX12_33 (Or.inr ⟨rfl, _, rfl, rfl⟩) f259 (by decide) rfl rfl (Nat.le_of_ble_eq_true rfl) rfl (fun h268 a269 e270 l271 s272 => ?_)
  have f273 := (e270 37 (by decide)).trans f260
  have f274 := (e270 38 (by decide)).trans f261
  have f275 := (e270 39 (by decide)).trans f262
  have f276 := (e270 40 (by decide)).trans f263
  have f277 := (e270 41 (by decide)).trans f264
  have f278 := (e270 42 (by decide)).trans f265
  have f279 := (e270 43 (by decide)).trans a254
  have sm280 := Gr.put sm266 e270 l271 s272 (Or.inl (by decide))
  refine x_aload_n dX12_init_67 0 rfl ?_
  refine x_bipush (v := 10) dX12_init_68 (by decide) ?_
  refine x_newa (t := 0) (N := 10) (ty := .int) (x := (10, .inl (fun _ => 0))) dX12_init_70 rfl rfl (by simp) ac_int (fun _ => rfl) rfl (by decide) (by decide) (by decide) (fun h281 q282 ea283 a284 e285 l286 s287 => ?_)
  have lm288 := sm280.2.1
  have f289 := (e285 36 (by have := lt_at a269; omega)).trans a269
  have f290 := (e285 37 (by have := lt_at f273; omega)).trans f273
  have f291 := (e285 38 (by have := lt_at f274; omega)).trans f274
  have f292 := (e285 39 (by have := lt_at f275; omega)).trans f275
  have f293 := (e285 40 (by have := lt_at f276; omega)).trans f276
  have f294 := (e285 41 (by have := lt_at f277; omega)).trans f277
  have f295 := (e285 42 (by have := lt_at f278; omega)).trans f278
  have f296 := (e285 43 (by have := lt_at f279; omega)).trans f279
  have sm297 := Gr.new sm280 ea283 e285 l286 s287
  have el298 : q282 = 44 := by omega
  subst el298
  refine x_put (fs2 := [.int 0, .ref 37, .ref 38, .ref 39, .int 0, .int 0, .int 0, .int 0, .int 0, .int 0, .int 0, .int 0, .int 0, .int 0, .int 0, .long 0, .int 0, .ref 40, .int 0, .ref 41, .ref 42, .int 0, .int 0, .int 0, .int 0, .int (-1), .ref 43, .ref 44, .null, .null, .null, .null, .null, .int 0, .int 0]) dX12_init_72 fX12_36 (Or.inr ⟨rfl, _, rfl, rfl⟩) f289 (by decide) rfl rfl (Nat.le_of_ble_eq_true rfl) rfl (fun h299 a300 e301 l302 s303 => ?_)
  have f304 := (e301 37 (by decide)).trans f290
  have f305 := (e301 38 (by decide)).trans f291
  have f306 := (e301 39 (by decide)).trans f292
  have f307 := (e301 40 (by decide)).trans f293
  have f308 := (e301 41 (by decide)).trans f294
  have f309 := (e301 42 (by decide)).trans f295
  have f310 := (e301 43 (by decide)).trans f296
  have f311 := (e301 44 (by decide)).trans a284
  have sm312 := Gr.put sm297 e301 l302 s303 (Or.inl (by decide))
  refine x_aload_n dX12_init_75 0 rfl ?_
  refine x_bipush (v := 10) dX12_init_76 (by decide) ?_
  refine x_newa (t := 0) (N := 10) (ty := .int) (x := (10, .inl (fun _ => 0))) dX12_init_78 rfl rfl (by simp) ac_int (fun _ => rfl) rfl (by decide) (by decide) (by decide) (fun h313 q314 ea315 a316 e317 l318 s319 => ?_)
  have lm320 := sm312.2.1
  have f321 := (e317 36 (by have := lt_at a300; omega)).trans a300
  have f322 := (e317 37 (by have := lt_at f304; omega)).trans f304
  have f323 := (e317 38 (by have := lt_at f305; omega)).trans f305
  have f324 := (e317 39 (by have := lt_at f306; omega)).trans f306
  have f325 := (e317 40 (by have := lt_at f307; omega)).trans f307
  have f326 := (e317 41 (by have := lt_at f308; omega)).trans f308
  have f327 := (e317 42 (by have := lt_at f309; omega)).trans f309
  have f328 := (e317 43 (by have := lt_at f310; omega)).trans f310
  have f329 := (e317 44 (by have := lt_at f311; omega)).trans f311
  have sm330 := Gr.new sm312 ea315 e317 l318 s319
  have el331 : q314 = 45 := by omega
  subst el331
  refine x_put (fs2 := [.int 0, .ref 37, .ref 38, .ref 39, .int 0, .int 0, .int 0, .int 0, .int 0, .int 0, .int 0, .int 0, .int 0, .int 0, .int 0, .long 0, .int 0, .ref 40, .int 0, .ref 41, .ref 42, .int 0, .int 0, .int 0, .int 0, .int (-1), .ref 43, .ref 44, .ref 45, .null, .null, .null, .null, .int 0, .int 0]) dX12_init_80 fX12_39 (Or.inr ⟨rfl, _, rfl, rfl⟩) f321 (by decide) rfl rfl (Nat.le_of_ble_eq_true rfl) rfl (fun h332 a333 e334 l335 s336 => ?_)
  have f337 := (e334 37 (by decide)).trans f322
  have f338 := (e334 38 (by decide)).trans f323
  have f339 := (e334 39 (by decide)).trans f324
  have f340 := (e334 40 (by decide)).trans f325
  have f341 := (e334 41 (by decide)).trans f326
  have f342 := (e334 42 (by decide)).trans f327
  have f343 := (e334 43 (by decide)).trans f328
  have f344 := (e334 44 (by decide)).trans f329
  have f345 := (e334 45 (by decide)).trans a316
  have sm346 := Gr.put sm330 e334 l335 s336 (Or.inl (by decide))
  refine x_aload_n dX12_init_83 0 rfl ?_
  refine x_bipush (v := 10) dX12_init_84 (by decide) ?_
  refine x_newa (t := 0) (N := 10) (ty := .int) (x := (10, .inl (fun _ => 0))) dX12_init_86 rfl rfl (by simp) ac_int (fun _ => rfl) rfl (by decide) (by decide) (by decide) (fun h347 q348 ea349 a350 e351 l352 s353 => ?_)
  have lm354 := sm346.2.1
  have f355 := (e351 36 (by have := lt_at a333; omega)).trans a333
  have f356 := (e351 37 (by have := lt_at f337; omega)).trans f337
  have f357 := (e351 38 (by have := lt_at f338; omega)).trans f338
  have f358 := (e351 39 (by have := lt_at f339; omega)).trans f339
  have f359 := (e351 40 (by have := lt_at f340; omega)).trans f340
  have f360 := (e351 41 (by have := lt_at f341; omega)).trans f341
  have f361 := (e351 42 (by have := lt_at f342; omega)).trans f342
  have f362 := (e351 43 (by have := lt_at f343; omega)).trans f343
  have f363 := (e351 44 (by have := lt_at f344; omega)).trans f344
  have f364 := (e351 45 (by have := lt_at f345; omega)).trans f345
  have sm365 := Gr.new sm346 ea349 e351 l352 s353
  have el366 : q348 = 46 := by omega
  subst el366
  refine x_put (fs2 := [.int 0, .ref 37, .ref 38, .ref 39, .int 0, .int 0, .int 0, .int 0, .int 0, .int 0, .int 0, .int 0, .int 0, .int 0, .int 0, .long 0, .int 0, .ref 40, .int 0, .ref 41, .ref 42, .int 0, .int 0, .int 0, .int 0, .int (-1), .ref 43, .ref 44, .ref 45, .ref 46, .null, .null, .null, .int 0, .int 0]) dX12_init_88 fX12_42 (Or.inr ⟨rfl, _, rfl, rfl⟩) f355 (by decide) rfl rfl (Nat.le_of_ble_eq_true rfl) rfl (fun h367 a368 e369 l370 s371 => ?_)
  have f372 := (e369 37 (by decide)).trans f356
  have f373 := (e369 38 (by decide)).trans f357
  have f374 := (e369 39 (by decide)).trans f358
  have f375 := (e369 40 (by decide)).trans f359
  have f376 := (e369 41 (by decide)).trans f360
  have f377 := (e369 42 (by decide)).trans f361
  have f378 := (e369 43 (by decide)).trans f362
  have f379 := (e369 44 (by decide)).trans f363
  have f380 := (e369 45 (by decide)).trans f364
  have f381 := (e369 46 (by decide)).trans a350
  have sm382 := Gr.put sm365 e369 l370 s371 (Or.inl (by decide))
  refine x_aload_n dX12_init_91 0 rfl ?_
  refine x_bipush (v := 6) dX12_init_92 (by decide) ?_
  refine x_newa (t := 0) (N := 6) (ty := .int) (x := (6, .inl (fun _ => 0))) dX12_init_94 rfl rfl (by simp) ac_int (fun _ => rfl) rfl (by decide) (by decide) (by decide) (fun h383 q384 ea385 a386 e387 l388 s389 => ?_)
  have lm390 := sm382.2.1
  have f391 := (e387 36 (by have := lt_at a368; omega)).trans a368
  have f392 := (e387 37 (by have := lt_at f372; omega)).trans f372
  have f393 := (e387 38 (by have := lt_at f373; omega)).trans f373
  have f394 := (e387 39 (by have := lt_at f374; omega)).trans f374
  have f395 := (e387 40 (by have := lt_at f375; omega)).trans f375
  have f396 := (e387 41 (by have := lt_at f376; omega)).trans f376
  have f397 := (e387 42 (by have := lt_at f377; omega)).trans f377
  have f398 := (e387 43 (by have := lt_at f378; omega)).trans f378
  have f399 := (e387 44 (by have := lt_at f379; omega)).trans f379
  have f400 := (e387 45 (by have := lt_at f380; omega)).trans f380
  have f401 := (e387 46 (by have := lt_at f381; omega)).trans f381
  have sm402 := Gr.new sm382 ea385 e387 l388 s389
  have el403 : q384 = 47 := by omega
  subst el403
  refine x_put (fs2 := [.int 0, .ref 37, .ref 38, .ref 39, .int 0, .int 0, .int 0, .int 0, .int 0, .int 0, .int 0, .int 0, .int 0, .int 0, .int 0, .long 0, .int 0, .ref 40, .int 0, .ref 41, .ref 42, .int 0, .int 0, .int 0, .int 0, .int (-1), .ref 43, .ref 44, .ref 45, .ref 46, .ref 47, .null, .null, .int 0, .int 0]) dX12_init_96 fX12_45 (Or.inr ⟨rfl, _, rfl, rfl⟩) f391 (by decide) rfl rfl (Nat.le_of_ble_eq_true rfl) rfl (fun h404 a405 e406 l407 s408 => ?_)
  have f409 := (e406 37 (by decide)).trans f392
  have f410 := (e406 38 (by decide)).trans f393
  have f411 := (e406 39 (by decide)).trans f394
  have f412 := (e406 40 (by decide)).trans f395
  have f413 := (e406 41 (by decide)).trans f396
  have f414 := (e406 42 (by decide)).trans f397
  have f415 := (e406 43 (by decide)).trans f398
  have f416 := (e406 44 (by decide)).trans f399
  have f417 := (e406 45 (by decide)).trans f400
  have f418 := (e406 46 (by decide)).trans f401
  have f419 := (e406 47 (by decide)).trans a386
  have sm420 := Gr.put sm402 e406 l407 s408 (Or.inl (by decide))
  refine x_aload_n dX12_init_99 0 rfl ?_
  refine x_bipush (v := 6) dX12_init_100 (by decide) ?_
  refine x_newa (t := 0) (N := 6) (ty := .int) (x := (6, .inl (fun _ => 0))) dX12_init_102 rfl rfl (by simp) ac_int (fun _ => rfl) rfl (by decide) (by decide) (by decide) (fun h421 q422 ea423 a424 e425 l426 s427 => ?_)
  have lm428 := sm420.2.1
  have f429 := (e425 36 (by have := lt_at a405; omega)).trans a405
  have f430 := (e425 37 (by have := lt_at f409; omega)).trans f409
  have f431 := (e425 38 (by have := lt_at f410; omega)).trans f410
  have f432 := (e425 39 (by have := lt_at f411; omega)).trans f411
  have f433 := (e425 40 (by have := lt_at f412; omega)).trans f412
  have f434 := (e425 41 (by have := lt_at f413; omega)).trans f413
  have f435 := (e425 42 (by have := lt_at f414; omega)).trans f414
  have f436 := (e425 43 (by have := lt_at f415; omega)).trans f415
  have f437 := (e425 44 (by have := lt_at f416; omega)).trans f416
  have f438 := (e425 45 (by have := lt_at f417; omega)).trans f417
  have f439 := (e425 46 (by have := lt_at f418; omega)).trans f418
  have f440 := (e425 47 (by have := lt_at f419; omega)).trans f419
  have sm441 := Gr.new sm420 ea423 e425 l426 s427
  have el442 : q422 = 48 := by omega
  subst el442
  refine x_put (fs2 := [.int 0, .ref 37, .ref 38, .ref 39, .int 0, .int 0, .int 0, .int 0, .int 0, .int 0, .int 0, .int 0, .int 0, .int 0, .int 0, .long 0, .int 0, .ref 40, .int 0, .ref 41, .ref 42, .int 0, .int 0, .int 0, .int 0, .int (-1), .ref 43, .ref 44, .ref 45, .ref 46, .ref 47, .ref 48, .null, .int 0, .int 0]) dX12_init_104 fX12_48 (Or.inr ⟨rfl, _, rfl, rfl⟩) f429 (by decide) rfl rfl (Nat.le_of_ble_eq_true rfl) rfl (fun h443 a444 e445 l446 s447 => ?_)
  have f448 := (e445 37 (by decide)).trans f430
  have f449 := (e445 38 (by decide)).trans f431
  have f450 := (e445 39 (by decide)).trans f432
  have f451 := (e445 40 (by decide)).trans f433
  have f452 := (e445 41 (by decide)).trans f434
  have f453 := (e445 42 (by decide)).trans f435
  have f454 := (e445 43 (by decide)).trans f436
  have f455 := (e445 44 (by decide)).trans f437
  have f456 := (e445 45 (by decide)).trans f438
  have f457 := (e445 46 (by decide)).trans f439
  have f458 := (e445 47 (by decide)).trans f440
  have f459 := (e445 48 (by decide)).trans a424
  have sm460 := Gr.put sm441 e445 l446 s447 (Or.inl (by decide))
  refine x_aload_n dX12_init_107 0 rfl ?_
  refine x_bipush (v := 10) dX12_init_108 (by decide) ?_
  refine x_newa (t := 3) (N := 10) (ty := .boolean) (x := (10, .inl (fun _ => 0))) dX12_init_110 rfl rfl (by simp) ac_boolean (fun _ => rfl) rfl (by decide) (by decide) (by decide) (fun h461 q462 ea463 a464 e465 l466 s467 => ?_)
  have lm468 := sm460.2.1
  have f469 := (e465 36 (by have := lt_at a444; omega)).trans a444
  have f470 := (e465 37 (by have := lt_at f448; omega)).trans f448
  have f471 := (e465 38 (by have := lt_at f449; omega)).trans f449
  have f472 := (e465 39 (by have := lt_at f450; omega)).trans f450
  have f473 := (e465 40 (by have := lt_at f451; omega)).trans f451
  have f474 := (e465 41 (by have := lt_at f452; omega)).trans f452
  have f475 := (e465 42 (by have := lt_at f453; omega)).trans f453
  have f476 := (e465 43 (by have := lt_at f454; omega)).trans f454
  have f477 := (e465 44 (by have := lt_at f455; omega)).trans f455
  have f478 := (e465 45 (by have := lt_at f456; omega)).trans f456
  have f479 := (e465 46 (by have := lt_at f457; omega)).trans f457
  have f480 := (e465 47 (by have := lt_at f458; omega)).trans f458
  have f481 := (e465 48 (by have := lt_at f459; omega)).trans f459
  have sm482 := Gr.new sm460 ea463 e465 l466 s467
  have el483 : q462 = 49 := by omega
  subst el483
  refine x_put (fs2 := (MO 0 0 0 0 0 0 0 0 0 0 0 0 0 0 0 0 0 0 0 ((-1)) 0 0)) dX12_init_112 fX12_51 (Or.inr ⟨rfl, _, rfl, rfl⟩) f469 (by decide) rfl rfl (Nat.le_of_ble_eq_true rfl) rfl (fun h484 a485 e486 l487 s488 => ?_)
  have f489 := (e486 37 (by decide)).trans f470
  have f490 := (e486 38 (by decide)).trans f471
  have f491 := (e486 39 (by decide)).trans f472
  have f492 := (e486 40 (by decide)).trans f473
  have f493 := (e486 41 (by decide)).trans f474
  have f494 := (e486 42 (by decide)).trans f475
  have f495 := (e486 43 (by decide)).trans f476
  have f496 := (e486 44 (by decide)).trans f477
  have f497 := (e486 45 (by decide)).trans f478
  have f498 := (e486 46 (by decide)).trans f479
  have f499 := (e486 47 (by decide)).trans f480
  have f500 := (e486 48 (by decide)).trans f481
  have f501 := (e486 49 (by decide)).trans a464
  have sm502 := Gr.put sm482 e486 l487 s488 (Or.inl (by decide))
  exact x_vret dX12_init_115 rfl ⟨rfl, by show h484.length = _; omega, a485, f489, f490, f491, f492, f493, f494, f495, f496, f497, f498, f499, f500, f501, sm502⟩

set_option maxRecDepth 100000 in
set_option maxHeartbeats 4000000 in
theorem c_thrown {G : GT} {h : List PE} {thr tpd tdy bks siz too frm knd num sgn flt plc tld now lst pfo thk are brk ipd bst : Int32} {wrd : Int64} (f36 : h[36]? = some (cO 12 (MO thr tpd tdy bks siz too frm knd num sgn flt plc wrd tld now lst pfo thk are brk ipd bst))) : CT G mX12_thrown 0 0 [.ref 36] h (fun o => o = (some (.int thr), h)) := by
  show X (NF G) G mX12_thrown 0 0 0 [(0, .ref 36)] [] h _
  refine x_aload_n dX12_thrown_0 0 rfl ?_
  refine x_get (v := .int thr) dX12_thrown_1 fX12_55 f36 (by decide) rfl ?_
  exact x_iret dX12_thrown_4 rfl rfl

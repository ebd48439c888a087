section XA
variable {Ω : Type} {F : FT Ω} {G : GT} {M : MT} {rf rl pc : Nat} {lv : List (Nat × Value)} {st : List Value} {h : List PE} {Q : Ω → Prop}
theorem x_aastV {a n t v ci i : Nat} {q : vw_C} {fs : List Value} {f : Nat → Option Nat} (ht : (g_ty G)[t]? = some (g_aC G t, .object q.1)) (hc : vwCl[ci]? = some q) (hd : decode M.2.1 pc = .ok (.aastore, 1)) (hh : h[a]? = some (cR t n f)) (ha : 3 ≤ a) (hvv : h[v]? = some (cO ci fs)) (hv3 : 3 ≤ v) (hin : i < n) (hn : n < 2 ^ 31) (k : ∀ h2 : List PE, h2[a]? = some (cR t n (va_up f i (some v))) → (∀ j, j ≠ a → h2[j]? = h[j]?) → h2.length = h.length → g_s h2 = g_s h → X F G M rf rl (pc + 1) lv st h2 Q) : X F G M rf rl pc lv (.ref v :: .int (nI i) :: .ref a :: st) h Q :=
  x_aast ht hc hd hh ha hvv hv3 (pk_in i n hin rfl hn) (fun h2 e => k h2 (by rw [nI_clamp (by omega)] at e; exact e))
end XA
theorem va_up_s {α : Type} {f : Nat → α} {k : Nat} {v : α} : va_up f k v k = v := if_pos rfl
theorem va_up_n {α : Type} {f : Nat → α} {k j : Nat} {v : α} (h : j ≠ k) : va_up f k v j = f j := if_neg h

set_option maxRecDepth 100000 in
set_option maxHeartbeats 4000000 in
theorem c_X6_init {G : GT} {h : List PE} {q : Nat} (hq : 3 ≤ q) (hl : q + 1 = h.length) (fq : h[q]? = some (cO 6 [.null, .null, .int 0, .int 0, .int 0])) : CT G mX6_init 1 20 [.ref q] h (fun o => o.1 = none ∧ o.2.length = q + 3 ∧ o.2[q]? = some (cO 6 [.ref (q + 1), .ref (q + 2), .int 0, .int 0, .int 0]) ∧ o.2[(q + 1)]? = some (cI 8 ((fun _ => 0))) ∧ o.2[(q + 2)]? = some (cI 8 ((fun _ => 0))) ∧ Gr q [] 2 16 h o.2) := by
  have sm0 : Gr q [] 0 0 h h := Gr.rf
  show X (NF G) G mX6_init 1 20 0 [(0, .ref q)] [] h _
  refine x_aload_n dX6_init_0 0 rfl ?_
  refine x_objInit dX6_init_1 oX6_3 oI_inst oI_code (by decide) (Nat.le_of_ble_eq_true rfl) ?_
  refine x_aload_n dX6_init_4 0 rfl ?_
  refine x_bipush (v := 8) dX6_init_5 (by decide) ?_
  refine x_newa (t := 0) (N := 8) (ty := .int) (x := (8, .inl (fun _ => 0))) dX6_init_7 rfl rfl (by simp) ac_int (fun _ => rfl) rfl (by decide) (by decide) (by decide) (fun h101 q102 ea103 a104 e105 l106 s107 => ?_)
  have lm108 := sm0.2.1
  have f109 := (e105 q (by have := lt_at fq; omega)).trans fq
  have sm110 := Gr.new sm0 ea103 e105 l106 s107
  have el111 : q102 = (q + 1) := by omega
  subst el111
  refine x_put (fs2 := [.ref (q + 1), .null, .int 0, .int 0, .int 0]) dX6_init_9 fX6_11 (Or.inr ⟨rfl, _, rfl, rfl⟩) f109 (by omega) rfl rfl (Nat.le_of_ble_eq_true rfl) rfl (fun h112 a113 e114 l115 s116 => ?_)
  have f117 := (e114 (q + 1) (by omega)).trans a104
  have sm118 := Gr.put sm110 e114 l115 s116 (Or.inr (by omega))
  refine x_aload_n dX6_init_12 0 rfl ?_
  refine x_bipush (v := 8) dX6_init_13 (by decide) ?_
  refine x_newa (t := 0) (N := 8) (ty := .int) (x := (8, .inl (fun _ => 0))) dX6_init_15 rfl rfl (by simp) ac_int (fun _ => rfl) rfl (by decide) (by decide) (by decide) (fun h119 q120 ea121 a122 e123 l124 s125 => ?_)
  have lm126 := sm118.2.1
  have f127 := (e123 q (by have := lt_at a113; omega)).trans a113
  have f128 := (e123 (q + 1) (by have := lt_at f117; omega)).trans f117
  have sm129 := Gr.new sm118 ea121 e123 l124 s125
  have el130 : q120 = (q + 2) := by omega
  subst el130
  refine x_put (fs2 := [.ref (q + 1), .ref (q + 2), .int 0, .int 0, .int 0]) dX6_init_17 fX6_15 (Or.inr ⟨rfl, _, rfl, rfl⟩) f127 (by omega) rfl rfl (Nat.le_of_ble_eq_true rfl) rfl (fun h131 a132 e133 l134 s135 => ?_)
  have f136 := (e133 (q + 1) (by omega)).trans f128
  have f137 := (e133 (q + 2) (by omega)).trans a122
  have sm138 := Gr.put sm129 e133 l134 s135 (Or.inr (by omega))
  refine x_aload_n dX6_init_20 0 rfl ?_
  refine x_iconst (v := 0) dX6_init_21 (by decide) ?_
  refine x_put (fs2 := [.ref (q + 1), .ref (q + 2), .int 0, .int 0, .int 0]) dX6_init_22 fX6_18 (Or.inl rfl) a132 (by omega) rfl rfl (Nat.le_of_ble_eq_true rfl) rfl (fun h139 a140 e141 l142 s143 => ?_)
  have f144 := (e141 (q + 1) (by omega)).trans f136
  have f145 := (e141 (q + 2) (by omega)).trans f137
  have sm146 := Gr.put sm138 e141 l142 s143 (Or.inr (by omega))
  refine x_aload_n dX6_init_25 0 rfl ?_
  refine x_iconst (v := 0) dX6_init_26 (by decide) ?_
  refine x_put (fs2 := [.ref (q + 1), .ref (q + 2), .int 0, .int 0, .int 0]) dX6_init_27 fX6_22 (Or.inl rfl) a140 (by omega) rfl rfl (Nat.le_of_ble_eq_true rfl) rfl (fun h147 a148 e149 l150 s151 => ?_)
  have f152 := (e149 (q + 1) (by omega)).trans f144
  have f153 := (e149 (q + 2) (by omega)).trans f145
  have sm154 := Gr.put sm146 e149 l150 s151 (Or.inr (by omega))
  refine x_aload_n dX6_init_30 0 rfl ?_
  refine x_iconst (v := 0) dX6_init_31 (by decide) ?_
  refine x_put (fs2 := [.ref (q + 1), .ref (q + 2), .int 0, .int 0, .int 0]) dX6_init_32 fX6_25 (Or.inl rfl) a148 (by omega) rfl rfl (Nat.le_of_ble_eq_true rfl) rfl (fun h155 a156 e157 l158 s159 => ?_)
  have f160 := (e157 (q + 1) (by omega)).trans f152
  have f161 := (e157 (q + 2) (by omega)).trans f153
  have sm162 := Gr.put sm154 e157 l158 s159 (Or.inr (by omega))
  exact x_vret dX6_init_35 rfl ⟨rfl, by show h155.length = _; omega, a156, f160, f161, sm162⟩

set_option maxRecDepth 100000 in
set_option maxHeartbeats 4000000 in
theorem c_X9_init {G : GT} {h : List PE} {q : Nat} (hq : 3 ≤ q) (hl : q + 1 = h.length) (fq : h[q]? = some (cO 9 [.null, .null, .null, .null, .int 0, .int 0])) : CT G mX9_init 1 20 [.ref q] h (fun o => o.1 = none ∧ o.2.length = q + 5 ∧ o.2[q]? = some (cO 9 [.ref (q + 1), .ref (q + 2), .ref (q + 3), .ref (q + 4), .int 1, .int 0]) ∧ o.2[(q + 1)]? = some (cI 3 ((fun _ => 0))) ∧ o.2[(q + 2)]? = some (cR 4 6 ((fun _ => none))) ∧ o.2[(q + 3)]? = some (cI 6 ((fun _ => 0))) ∧ o.2[(q + 4)]? = some (cI 6 ((fun _ => 0))) ∧ Gr q [] 4 21 h o.2) := by
  have sm0 : Gr q [] 0 0 h h := Gr.rf
  show X (NF G) G mX9_init 1 20 0 [(0, .ref q)] [] h _
  refine x_aload_n dX9_init_0 0 rfl ?_
  refine x_objInit dX9_init_1 oX9_3 oI_inst oI_code (by decide) (Nat.le_of_ble_eq_true rfl) ?_
  refine x_aload_n dX9_init_4 0 rfl ?_
  refine x_iconst (v := 3) dX9_init_5 (by decide) ?_
  refine x_newa (t := 0) (N := 3) (ty := .int) (x := (3, .inl (fun _ => 0))) dX9_init_6 rfl rfl (by simp) ac_int (fun _ => rfl) rfl (by decide) (by decide) (by decide) (fun h101 q102 ea103 a104 e105 l106 s107 => ?_)
  have lm108 := sm0.2.1
  have f109 := (e105 q (by have := lt_at fq; omega)).trans fq
  have sm110 := Gr.new sm0 ea103 e105 l106 s107
  have el111 : q102 = (q + 1) := by omega
  subst el111
  refine x_put (fs2 := [.ref (q + 1), .null, .null, .null, .int 0, .int 0]) dX9_init_8 fX9_9 (Or.inr ⟨rfl, _, rfl, rfl⟩) f109 (by omega) rfl rfl (Nat.le_of_ble_eq_true rfl) rfl (fun h112 a113 e114 l115 s116 => ?_)
  have f117 := (e114 (q + 1) (by omega)).trans a104
  have sm118 := Gr.put sm110 e114 l115 s116 (Or.inr (by omega))
  refine x_aload_n dX9_init_11 0 rfl ?_
  refine x_bipush (v := 6) dX9_init_12 (by decide) ?_
  refine x_newq (t := 4) (N := 6) dX9_init_14 rfl qX9_15 ao_4 (by decide) (by decide) (by decide) (fun h119 q120 ea121 a122 e123 l124 s125 => ?_)
  have lm126 := sm118.2.1
  have f127 := (e123 q (by have := lt_at a113; omega)).trans a113
  have f128 := (e123 (q + 1) (by have := lt_at f117; omega)).trans f117
  have sm129 := Gr.new sm118 ea121 e123 l124 s125
  have el130 : q120 = (q + 2) := by omega
  subst el130
  refine x_put (fs2 := [.ref (q + 1), .ref (q + 2), .null, .null, .int 0, .int 0]) dX9_init_17 fX9_17 (Or.inr ⟨rfl, _, rfl, rfl⟩) f127 (by omega) rfl rfl (Nat.le_of_ble_eq_true rfl) rfl (fun h131 a132 e133 l134 s135 => ?_)
  have f136 := (e133 (q + 1) (by omega)).trans f128
  have f137 := (e133 (q + 2) (by omega)).trans a122
  have sm138 := Gr.put sm129 e133 l134 s135 (Or.inr (by omega))
  refine x_aload_n dX9_init_20 0 rfl ?_
  refine x_bipush (v := 6) dX9_init_21 (by decide) ?_
  refine x_newa (t := 0) (N := 6) (ty := .int) (x := (6, .inl (fun _ => 0))) dX9_init_23 rfl rfl (by simp) ac_int (fun _ => rfl) rfl (by decide) (by decide) (by decide) (fun h139 q140 ea141 a142 e143 l144 s145 => ?_)
  have lm146 := sm138.2.1
  have f147 := (e143 q (by have := lt_at a132; omega)).trans a132
  have f148 := (e143 (q + 1) (by have := lt_at f136; omega)).trans f136
  have f149 := (e143 (q + 2) (by have := lt_at f137; omega)).trans f137
  have sm150 := Gr.new sm138 ea141 e143 l144 s145
  have el151 : q140 = (q + 3) := by omega
  subst el151
  refine x_put (fs2 := [.ref (q + 1), .ref (q + 2), .ref (q + 3), .null, .int 0, .int 0]) dX9_init_25 fX9_21 (Or.inr ⟨rfl, _, rfl, rfl⟩) f147 (by omega) rfl rfl (Nat.le_of_ble_eq_true rfl) rfl (fun h152 a153 e154 l155 s156 => ?_)
  have f157 := (e154 (q + 1) (by omega)).trans f148
  have f158 := (e154 (q + 2) (by omega)).trans f149
  have f159 := (e154 (q + 3) (by omega)).trans a142
  have sm160 := Gr.put sm150 e154 l155 s156 (Or.inr (by omega))
  refine x_aload_n dX9_init_28 0 rfl ?_
  refine x_bipush (v := 6) dX9_init_29 (by decide) ?_
  refine x_newa (t := 0) (N := 6) (ty := .int) (x := (6, .inl (fun _ => 0))) dX9_init_31 rfl rfl (by simp) ac_int (fun _ => rfl) rfl (by decide) (by decide) (by decide) (fun h161 q162 ea163 a164 e165 l166 s167 => ?_)
  have lm168 := sm160.2.1
  have f169 := (e165 q (by have := lt_at a153; omega)).trans a153
  have f170 := (e165 (q + 1) (by have := lt_at f157; omega)).trans f157
  have f171 := (e165 (q + 2) (by have := lt_at f158; omega)).trans f158
  have f172 := (e165 (q + 3) (by have := lt_at f159; omega)).trans f159
  have sm173 := Gr.new sm160 ea163 e165 l166 s167
  have el174 : q162 = (q + 4) := by omega
  subst el174
  refine x_put (fs2 := [.ref (q + 1), .ref (q + 2), .ref (q + 3), .ref (q + 4), .int 0, .int 0]) dX9_init_33 fX9_24 (Or.inr ⟨rfl, _, rfl, rfl⟩) f169 (by omega) rfl rfl (Nat.le_of_ble_eq_true rfl) rfl (fun h175 a176 e177 l178 s179 => ?_)
  have f180 := (e177 (q + 1) (by omega)).trans f170
  have f181 := (e177 (q + 2) (by omega)).trans f171
  have f182 := (e177 (q + 3) (by omega)).trans f172
  have f183 := (e177 (q + 4) (by omega)).trans a164
  have sm184 := Gr.put sm173 e177 l178 s179 (Or.inr (by omega))
  refine x_aload_n dX9_init_36 0 rfl ?_
  refine x_iconst (v := 1) dX9_init_37 (by decide) ?_
  refine x_put (fs2 := [.ref (q + 1), .ref (q + 2), .ref (q + 3), .ref (q + 4), .int 1, .int 0]) dX9_init_38 fX9_27 (Or.inl rfl) a176 (by omega) rfl rfl (Nat.le_of_ble_eq_true rfl) rfl (fun h185 a186 e187 l188 s189 => ?_)
  have f190 := (e187 (q + 1) (by omega)).trans f180
  have f191 := (e187 (q + 2) (by omega)).trans f181
  have f192 := (e187 (q + 3) (by omega)).trans f182
  have f193 := (e187 (q + 4) (by omega)).trans f183
  have sm194 := Gr.put sm184 e187 l188 s189 (Or.inr (by omega))
  refine x_aload_n dX9_init_41 0 rfl ?_
  refine x_iconst (v := 0) dX9_init_42 (by decide) ?_
  refine x_put (fs2 := [.ref (q + 1), .ref (q + 2), .ref (q + 3), .ref (q + 4), .int 1, .int 0]) dX9_init_43 fX9_31 (Or.inl rfl) a186 (by omega) rfl rfl (Nat.le_of_ble_eq_true rfl) rfl (fun h195 a196 e197 l198 s199 => ?_)
  have f200 := (e197 (q + 1) (by omega)).trans f190
  have f201 := (e197 (q + 2) (by omega)).trans f191
  have f202 := (e197 (q + 3) (by omega)).trans f192
  have f203 := (e197 (q + 4) (by omega)).trans f193
  have sm204 := Gr.put sm194 e197 l198 s199 (Or.inr (by omega))
  exact x_vret dX9_init_46 rfl ⟨rfl, by show h195.length = _; omega, a196, f200, f201, f202, f203, sm204⟩

set_option maxRecDepth 100000 in
set_option maxHeartbeats 4000000 in
theorem c_X2_init {G : GT} {h : List PE} {q : Nat} (hq : 3 ≤ q) (hl : q + 1 = h.length) (fq : h[q]? = some (cO 2 [.null, .int 0, .int 0])) : CT G mX2_init 1 20 [.ref q] h (fun o => o.1 = none ∧ o.2.length = q + 2 ∧ o.2[q]? = some (cO 2 [.ref (q + 1), .int 0, .int 0]) ∧ o.2[(q + 1)]? = some (cI 3 ((fun _ => 0))) ∧ Gr q [] 1 3 h o.2) := by
  have sm0 : Gr q [] 0 0 h h := Gr.rf
  show X (NF G) G mX2_init 1 20 0 [(0, .ref q)] [] h _
  refine x_aload_n dX2_init_0 0 rfl ?_
  refine x_objInit dX2_init_1 oX2_3 oI_inst oI_code (by decide) (Nat.le_of_ble_eq_true rfl) ?_
  refine x_aload_n dX2_init_4 0 rfl ?_
  refine x_iconst (v := 3) dX2_init_5 (by decide) ?_
  refine x_newa (t := 0) (N := 3) (ty := .int) (x := (3, .inl (fun _ => 0))) dX2_init_6 rfl rfl (by simp) ac_int (fun _ => rfl) rfl (by decide) (by decide) (by decide) (fun h101 q102 ea103 a104 e105 l106 s107 => ?_)
  have lm108 := sm0.2.1
  have f109 := (e105 q (by have := lt_at fq; omega)).trans fq
  have sm110 := Gr.new sm0 ea103 e105 l106 s107
  have el111 : q102 = (q + 1) := by omega
  subst el111
  refine x_put (fs2 := [.ref (q + 1), .int 0, .int 0]) dX2_init_8 fX2_9 (Or.inr ⟨rfl, _, rfl, rfl⟩) f109 (by omega) rfl rfl (Nat.le_of_ble_eq_true rfl) rfl (fun h112 a113 e114 l115 s116 => ?_)
  have f117 := (e114 (q + 1) (by omega)).trans a104
  have sm118 := Gr.put sm110 e114 l115 s116 (Or.inr (by omega))
  refine x_aload_n dX2_init_11 0 rfl ?_
  refine x_iconst (v := 0) dX2_init_12 (by decide) ?_
  refine x_put (fs2 := [.ref (q + 1), .int 0, .int 0]) dX2_init_13 fX2_15 (Or.inl rfl) a113 (by omega) rfl rfl (Nat.le_of_ble_eq_true rfl) rfl (fun h119 a120 e121 l122 s123 => ?_)
  have f124 := (e121 (q + 1) (by omega)).trans f117
  have sm125 := Gr.put sm118 e121 l122 s123 (Or.inr (by omega))
  refine x_aload_n dX2_init_16 0 rfl ?_
  refine x_iconst (v := 0) dX2_init_17 (by decide) ?_
  refine x_put (fs2 := [.ref (q + 1), .int 0, .int 0]) dX2_init_18 fX2_19 (Or.inl rfl) a120 (by omega) rfl rfl (Nat.le_of_ble_eq_true rfl) rfl (fun h126 a127 e128 l129 s130 => ?_)
  have f131 := (e128 (q + 1) (by omega)).trans f124
  have sm132 := Gr.put sm125 e128 l129 s130 (Or.inr (by omega))
  exact x_vret dX2_init_21 rfl ⟨rfl, by show h126.length = _; omega, a127, f131, sm132⟩

set_option maxRecDepth 100000 in
set_option maxHeartbeats 4000000 in
theorem c_X5_init {G : GT} {h : List PE} {q : Nat} (hq : 3 ≤ q) (hl : q + 1 = h.length) (fq : h[q]? = some (cO 5 [.int 0, .int 0, .int 0, .int 0])) : CT G mX5_init 1 20 [.ref q] h (fun o => o.1 = none ∧ o.2.length = q + 1 ∧ o.2[q]? = some (cO 5 [.int 0, .int 0, .int 0, .int 1]) ∧ Gr q [] 0 0 h o.2) := by
  have sm0 : Gr q [] 0 0 h h := Gr.rf
  show X (NF G) G mX5_init 1 20 0 [(0, .ref q)] [] h _
  refine x_aload_n dX5_init_0 0 rfl ?_
  refine x_objInit dX5_init_1 oX5_1 oI_inst oI_code (by decide) (Nat.le_of_ble_eq_true rfl) ?_
  refine x_aload_n dX5_init_4 0 rfl ?_
  refine x_iconst (v := 0) dX5_init_5 (by decide) ?_
  refine x_put (fs2 := [.int 0, .int 0, .int 0, .int 0]) dX5_init_6 fX5_7 (Or.inl rfl) fq (by omega) rfl rfl (Nat.le_of_ble_eq_true rfl) rfl (fun h101 a102 e103 l104 s105 => ?_)
  have sm106 := Gr.put sm0 e103 l104 s105 (Or.inr (by omega))
  refine x_aload_n dX5_init_9 0 rfl ?_
  refine x_iconst (v := 0) dX5_init_10 (by decide) ?_
  refine x_put (fs2 := [.int 0, .int 0, .int 0, .int 0]) dX5_init_11 fX5_13 (Or.inl rfl) a102 (by omega) rfl rfl (Nat.le_of_ble_eq_true rfl) rfl (fun h107 a108 e109 l110 s111 => ?_)
  have sm112 := Gr.put sm106 e109 l110 s111 (Or.inr (by omega))
  refine x_aload_n dX5_init_14 0 rfl ?_
  refine x_iconst (v := 0) dX5_init_15 (by decide) ?_
  refine x_put (fs2 := [.int 0, .int 0, .int 0, .int 0]) dX5_init_16 fX5_16 (Or.inl rfl) a108 (by omega) rfl rfl (Nat.le_of_ble_eq_true rfl) rfl (fun h113 a114 e115 l116 s117 => ?_)
  have sm118 := Gr.put sm112 e115 l116 s117 (Or.inr (by omega))
  refine x_aload_n dX5_init_19 0 rfl ?_
  refine x_iconst (v := 1) dX5_init_20 (by decide) ?_
  refine x_put (fs2 := [.int 0, .int 0, .int 0, .int 1]) dX5_init_21 fX5_19 (Or.inl rfl) a114 (by omega) rfl rfl (Nat.le_of_ble_eq_true rfl) rfl (fun h119 a120 e121 l122 s123 => ?_)
  have sm124 := Gr.put sm118 e121 l122 s123 (Or.inr (by omega))
  exact x_vret dX5_init_24 rfl ⟨rfl, by show h119.length = _; omega, a120, sm124⟩

set_option maxRecDepth 100000 in
set_option maxHeartbeats 4000000 in
theorem c_X0_init {G : GT} {h : List PE} {q : Nat} (hq : 3 ≤ q) (hl : q + 1 = h.length) (fq : h[q]? = some (cO 0 [.null, .null, .null, .null, .int 0, .int 0, .int 0, .int 0, .int 0, .int 0])) : CT G mX0_init 1 20 [.ref q] h (fun o => o.1 = none ∧ o.2.length = q + 5 ∧ o.2[q]? = some (cO 0 [.ref (q + 1), .ref (q + 2), .ref (q + 3), .ref (q + 4), .int 0, .int 0, .int 0, .int 0, .int 0, .int 0]) ∧ o.2[(q + 1)]? = some (cR 4 8 ((fun _ => none))) ∧ o.2[(q + 2)]? = some (cR 5 8 ((fun _ => none))) ∧ o.2[(q + 3)]? = some (cR 6 8 ((fun _ => none))) ∧ o.2[(q + 4)]? = some (cR 7 20 ((fun _ => none))) ∧ Gr q [] 4 44 h o.2) := by
  have sm0 : Gr q [] 0 0 h h := Gr.rf
  show X (NF G) G mX0_init 1 20 0 [(0, .ref q)] [] h _
  refine x_aload_n dX0_init_0 0 rfl ?_
  refine x_objInit dX0_init_1 oX0_1 oI_inst oI_code (by decide) (Nat.le_of_ble_eq_true rfl) ?_
  refine x_aload_n dX0_init_4 0 rfl ?_
  refine x_bipush (v := 8) dX0_init_5 (by decide) ?_
  refine x_newq (t := 4) (N := 8) dX0_init_7 rfl qX0_9 ao_4 (by decide) (by decide) (by decide) (fun h101 q102 ea103 a104 e105 l106 s107 => ?_)
  have lm108 := sm0.2.1
  have f109 := (e105 q (by have := lt_at fq; omega)).trans fq
  have sm110 := Gr.new sm0 ea103 e105 l106 s107
  have el111 : q102 = (q + 1) := by omega
  subst el111
  refine x_put (fs2 := [.ref (q + 1), .null, .null, .null, .int 0, .int 0, .int 0, .int 0, .int 0, .int 0]) dX0_init_10 fX0_11 (Or.inr ⟨rfl, _, rfl, rfl⟩) f109 (by omega) rfl rfl (Nat.le_of_ble_eq_true rfl) rfl (fun h112 a113 e114 l115 s116 => ?_)
  have f117 := (e114 (q + 1) (by omega)).trans a104
  have sm118 := Gr.put sm110 e114 l115 s116 (Or.inr (by omega))
  refine x_aload_n dX0_init_13 0 rfl ?_
  refine x_bipush (v := 8) dX0_init_14 (by decide) ?_
  refine x_newq (t := 5) (N := 8) dX0_init_16 rfl qX0_15 ao_5 (by decide) (by decide) (by decide) (fun h119 q120 ea121 a122 e123 l124 s125 => ?_)
  have lm126 := sm118.2.1
  have f127 := (e123 q (by have := lt_at a113; omega)).trans a113
  have f128 := (e123 (q + 1) (by have := lt_at f117; omega)).trans f117
  have sm129 := Gr.new sm118 ea121 e123 l124 s125
  have el130 : q120 = (q + 2) := by omega
  subst el130
  refine x_put (fs2 := [.ref (q + 1), .ref (q + 2), .null, .null, .int 0, .int 0, .int 0, .int 0, .int 0, .int 0]) dX0_init_19 fX0_17 (Or.inr ⟨rfl, _, rfl, rfl⟩) f127 (by omega) rfl rfl (Nat.le_of_ble_eq_true rfl) rfl (fun h131 a132 e133 l134 s135 => ?_)
  have f136 := (e133 (q + 1) (by omega)).trans f128
  have f137 := (e133 (q + 2) (by omega)).trans a122
  have sm138 := Gr.put sm129 e133 l134 s135 (Or.inr (by omega))
  refine x_aload_n dX0_init_22 0 rfl ?_
  refine x_bipush (v := 8) dX0_init_23 (by decide) ?_
  refine x_newq (t := 6) (N := 8) dX0_init_25 rfl qX0_21 ao_6 (by decide) (by decide) (by decide) (fun h139 q140 ea141 a142 e143 l144 s145 => ?_)
  have lm146 := sm138.2.1
  have f147 := (e143 q (by have := lt_at a132; omega)).trans a132
  have f148 := (e143 (q + 1) (by have := lt_at f136; omega)).trans f136
  have f149 := (e143 (q + 2) (by have := lt_at f137; omega)).trans f137
  have sm150 := Gr.new sm138 ea141 e143 l144 s145
  have el151 : q140 = (q + 3) := by omega
  subst el151
  refine x_put (fs2 := [.ref (q + 1), .ref (q + 2), .ref (q + 3), .null, .int 0, .int 0, .int 0, .int 0, .int 0, .int 0]) dX0_init_28 fX0_23 (Or.inr ⟨rfl, _, rfl, rfl⟩) f147 (by omega) rfl rfl (Nat.le_of_ble_eq_true rfl) rfl (fun h152 a153 e154 l155 s156 => ?_)
  have f157 := (e154 (q + 1) (by omega)).trans f148
  have f158 := (e154 (q + 2) (by omega)).trans f149
  have f159 := (e154 (q + 3) (by omega)).trans a142
  have sm160 := Gr.put sm150 e154 l155 s156 (Or.inr (by omega))
  refine x_aload_n dX0_init_31 0 rfl ?_
  refine x_bipush (v := 20) dX0_init_32 (by decide) ?_
  refine x_newq (t := 7) (N := 20) dX0_init_34 rfl qX0_27 ao_7 (by decide) (by decide) (by decide) (fun h161 q162 ea163 a164 e165 l166 s167 => ?_)
  have lm168 := sm160.2.1
  have f169 := (e165 q (by have := lt_at a153; omega)).trans a153
  have f170 := (e165 (q + 1) (by have := lt_at f157; omega)).trans f157
  have f171 := (e165 (q + 2) (by have := lt_at f158; omega)).trans f158
  have f172 := (e165 (q + 3) (by have := lt_at f159; omega)).trans f159
  have sm173 := Gr.new sm160 ea163 e165 l166 s167
  have el174 : q162 = (q + 4) := by omega
  subst el174
  refine x_put (fs2 := [.ref (q + 1), .ref (q + 2), .ref (q + 3), .ref (q + 4), .int 0, .int 0, .int 0, .int 0, .int 0, .int 0]) dX0_init_37 fX0_29 (Or.inr ⟨rfl, _, rfl, rfl⟩) f169 (by omega) rfl rfl (Nat.le_of_ble_eq_true rfl) rfl (fun h175 a176 e177 l178 s179 => ?_)
  have f180 := (e177 (q + 1) (by omega)).trans f170
  have f181 := (e177 (q + 2) (by omega)).trans f171
  have f182 := (e177 (q + 3) (by omega)).trans f172
  have f183 := (e177 (q + 4) (by omega)).trans a164
  have sm184 := Gr.put sm173 e177 l178 s179 (Or.inr (by omega))
  refine x_aload_n dX0_init_40 0 rfl ?_
  refine x_iconst (v := 0) dX0_init_41 (by decide) ?_
  refine x_put (fs2 := [.ref (q + 1), .ref (q + 2), .ref (q + 3), .ref (q + 4), .int 0, .int 0, .int 0, .int 0, .int 0, .int 0]) dX0_init_42 fX0_33 (Or.inl rfl) a176 (by omega) rfl rfl (Nat.le_of_ble_eq_true rfl) rfl (fun h185 a186 e187 l188 s189 => ?_)
  have f190 := (e187 (q + 1) (by omega)).trans f180
  have f191 := (e187 (q + 2) (by omega)).trans f181
  have f192 := (e187 (q + 3) (by omega)).trans f182
  have f193 := (e187 (q + 4) (by omega)).trans f183
  have sm194 := Gr.put sm184 e187 l188 s189 (Or.inr (by omega))
  refine x_aload_n dX0_init_45 0 rfl ?_
  refine x_iconst (v := 0) dX0_init_46 (by decide) ?_
  refine x_put (fs2 := [.ref (q + 1), .ref (q + 2), .ref (q + 3), .ref (q + 4), .int 0, .int 0, .int 0, .int 0, .int 0, .int 0]) dX0_init_47 fX0_37 (Or.inl rfl) a186 (by omega) rfl rfl (Nat.le_of_ble_eq_true rfl) rfl (fun h195 a196 e197 l198 s199 => ?_)
  have f200 := (e197 (q + 1) (by omega)).trans f190
  have f201 := (e197 (q + 2) (by omega)).trans f191
  have f202 := (e197 (q + 3) (by omega)).trans f192
  have f203 := (e197 (q + 4) (by omega)).trans f193
  have sm204 := Gr.put sm194 e197 l198 s199 (Or.inr (by omega))
  refine x_aload_n dX0_init_50 0 rfl ?_
  refine x_iconst (v := 0) dX0_init_51 (by decide) ?_
  refine x_put (fs2 := [.ref (q + 1), .ref (q + 2), .ref (q + 3), .ref (q + 4), .int 0, .int 0, .int 0, .int 0, .int 0, .int 0]) dX0_init_52 fX0_40 (Or.inl rfl) a196 (by omega) rfl rfl (Nat.le_of_ble_eq_true rfl) rfl (fun h205 a206 e207 l208 s209 => ?_)
  have f210 := (e207 (q + 1) (by omega)).trans f200
  have f211 := (e207 (q + 2) (by omega)).trans f201
  have f212 := (e207 (q + 3) (by omega)).trans f202
  have f213 := (e207 (q + 4) (by omega)).trans f203
  have sm214 := Gr.put sm204 e207 l208 s209 (Or.inr (by omega))
  refine x_aload_n dX0_init_55 0 rfl ?_
  refine x_iconst (v := 0) dX0_init_56 (by decide) ?_
  refine x_put (fs2 := [.ref (q + 1), .ref (q + 2), .ref (q + 3), .ref (q + 4), .int 0, .int 0, .int 0, .int 0, .int 0, .int 0]) dX0_init_57 fX0_43 (Or.inl rfl) a206 (by omega) rfl rfl (Nat.le_of_ble_eq_true rfl) rfl (fun h215 a216 e217 l218 s219 => ?_)
  have f220 := (e217 (q + 1) (by omega)).trans f210
  have f221 := (e217 (q + 2) (by omega)).trans f211
  have f222 := (e217 (q + 3) (by omega)).trans f212
  have f223 := (e217 (q + 4) (by omega)).trans f213
  have sm224 := Gr.put sm214 e217 l218 s219 (Or.inr (by omega))
  refine x_aload_n dX0_init_60 0 rfl ?_
  refine x_iconst (v := 0) dX0_init_61 (by decide) ?_
  refine x_put (fs2 := [.ref (q + 1), .ref (q + 2), .ref (q + 3), .ref (q + 4), .int 0, .int 0, .int 0, .int 0, .int 0, .int 0]) dX0_init_62 fX0_46 (Or.inl rfl) a216 (by omega) rfl rfl (Nat.le_of_ble_eq_true rfl) rfl (fun h225 a226 e227 l228 s229 => ?_)
  have f230 := (e227 (q + 1) (by omega)).trans f220
  have f231 := (e227 (q + 2) (by omega)).trans f221
  have f232 := (e227 (q + 3) (by omega)).trans f222
  have f233 := (e227 (q + 4) (by omega)).trans f223
  have sm234 := Gr.put sm224 e227 l228 s229 (Or.inr (by omega))
  refine x_aload_n dX0_init_65 0 rfl ?_
  refine x_iconst (v := 0) dX0_init_66 (by decide) ?_
  refine x_put (fs2 := [.ref (q + 1), .ref (q + 2), .ref (q + 3), .ref (q + 4), .int 0, .int 0, .int 0, .int 0, .int 0, .int 0]) dX0_init_67 fX0_49 (Or.inl rfl) a226 (by omega) rfl rfl (Nat.le_of_ble_eq_true rfl) rfl (fun h235 a236 e237 l238 s239 => ?_)
  have f240 := (e237 (q + 1) (by omega)).trans f230
  have f241 := (e237 (q + 2) (by omega)).trans f231
  have f242 := (e237 (q + 3) (by omega)).trans f232
  have f243 := (e237 (q + 4) (by omega)).trans f233
  have sm244 := Gr.put sm234 e237 l238 s239 (Or.inr (by omega))
  exact x_vret dX0_init_70 rfl ⟨rfl, by show h235.length = _; omega, a236, f240, f241, f242, f243, sm244⟩

set_option maxRecDepth 100000 in
set_option maxHeartbeats 4000000 in
theorem c_addFoam {G : GT} {h : List PE} {a q n0 n1 n2 n3 : Nat} {ln dy : Int32} {z : Nat → Option Nat} {fs : List Value} (hn : n0 < 8) (ha : 3 ≤ a) (hq : a + 5 ≤ q) (fa : h[a]? = some (cO 0 [.ref (a + 1), .ref (a + 2), .ref (a + 3), .ref (a + 4), .int (nI n0), .int (nI n1), .int (nI n2), .int (nI n3), .int ln, .int dy])) (fr : h[a + 1]? = some (cR 4 8 z)) (fq : h[q]? = some (cO 6 fs)) : CT G mX0_addFoam 0 0 [.ref a, .ref q] h (fun o => o.1 = none ∧ Sm [a, a + 1] h o.2 ∧ o.2[a]? = some (cO 0 [.ref (a + 1), .ref (a + 2), .ref (a + 3), .ref (a + 4), .int (nI (n0 + 1)), .int (nI n1), .int (nI n2), .int (nI n3), .int ln, .int dy]) ∧ o.2[a + 1]? = some (cR 4 8 (va_up z n0 (some q)))) := by
  have sm0 : Sm [a, a + 1] h h := Sm.rf
  show X (NF G) G mX0_addFoam 0 0 0 [(0, .ref a), (1, .ref q)] [] h _
  refine x_aload_n dX0_addFoam_0 0 rfl ?_
  refine x_get (v := .int (nI n0)) dX0_addFoam_1 fX0_33 fa (by omega) rfl ?_
  refine x_bipush (v := 8) dX0_addFoam_4 (by decide) ?_
  refine x_icmp_geN (tgt := 29) (a := n0) (b := 8) (by omega) (by omega) dX0_addFoam_6 (by decide) (fun c_6 => absurd c_6 (by omega)) (fun c_6 => ?_)
  refine x_aload_n dX0_addFoam_9 0 rfl ?_
  refine x_get (v := .ref (a + 1)) dX0_addFoam_10 fX0_11 fa (by omega) rfl ?_
  refine x_aload_n dX0_addFoam_13 0 rfl ?_
  refine x_get (v := .int (nI n0)) dX0_addFoam_14 fX0_33 fa (by omega) rfl ?_
  refine x_aload_n dX0_addFoam_17 1 rfl ?_
  refine x_aastV (i := n0) rfl rfl dX0_addFoam_18 fr (by omega) fq (by omega) (by omega) (by decide) (fun h101 a102 e103 l104 s105 => ?_)
  have f106 := (e103 a (by omega)).trans fa
  have f107 := (e103 q (by omega)).trans fq
  have sm108 := Sm.put sm0 e103 l104 s105 (by simp)
  refine x_aload_n dX0_addFoam_19 0 rfl ?_
  refine x_dup dX0_addFoam_20 rfl ?_
  refine x_get (v := .int (nI n0)) dX0_addFoam_21 fX0_33 f106 (by omega) rfl ?_
  refine x_iconst (v := 1) dX0_addFoam_24 (by decide) ?_
  refine x_iaddN (a := n0) (b := 1) dX0_addFoam_25 ?_
  refine x_put (fs2 := [.ref (a + 1), .ref (a + 2), .ref (a + 3), .ref (a + 4), .int (nI (n0 + 1)), .int (nI n1), .int (nI n2), .int (nI n3), .int ln, .int dy]) dX0_addFoam_26 fX0_33 (Or.inl rfl) f106 (by omega) rfl rfl (Nat.le_of_ble_eq_true rfl) rfl (fun h109 a110 e111 l112 s113 => ?_)
  have f114 := (e111 (a + 1) (by omega)).trans a102
  have f115 := (e111 q (by omega)).trans f107
  have sm116 := Sm.put sm108 e111 l112 s113 (by simp)
  exact x_vret dX0_addFoam_29 rfl ⟨rfl, sm116, a110, f114⟩

set_option maxRecDepth 100000 in
set_option maxHeartbeats 4000000 in
theorem c_addThing {G : GT} {h : List PE} {a q n0 n1 n2 n3 : Nat} {ln dy : Int32} {z : Nat → Option Nat} {fs : List Value} (hn : n1 < 8) (ha : 3 ≤ a) (hq : a + 5 ≤ q) (fa : h[a]? = some (cO 0 [.ref (a + 1), .ref (a + 2), .ref (a + 3), .ref (a + 4), .int (nI n0), .int (nI n1), .int (nI n2), .int (nI n3), .int ln, .int dy])) (fr : h[a + 2]? = some (cR 5 8 z)) (fq : h[q]? = some (cO 9 fs)) : CT G mX0_addThing 0 0 [.ref a, .ref q] h (fun o => o.1 = none ∧ Sm [a, a + 2] h o.2 ∧ o.2[a]? = some (cO 0 [.ref (a + 1), .ref (a + 2), .ref (a + 3), .ref (a + 4), .int (nI n0), .int (nI (n1 + 1)), .int (nI n2), .int (nI n3), .int ln, .int dy]) ∧ o.2[a + 2]? = some (cR 5 8 (va_up z n1 (some q)))) := by
  have sm0 : Sm [a, a + 2] h h := Sm.rf
  show X (NF G) G mX0_addThing 0 0 0 [(0, .ref a), (1, .ref q)] [] h _
  refine x_aload_n dX0_addThing_0 0 rfl ?_
  refine x_get (v := .int (nI n1)) dX0_addThing_1 fX0_37 fa (by omega) rfl ?_
  refine x_bipush (v := 8) dX0_addThing_4 (by decide) ?_
  refine x_icmp_geN (tgt := 29) (a := n1) (b := 8) (by omega) (by omega) dX0_addThing_6 (by decide) (fun c_6 => absurd c_6 (by omega)) (fun c_6 => ?_)
  refine x_aload_n dX0_addThing_9 0 rfl ?_
  refine x_get (v := .ref (a + 2)) dX0_addThing_10 fX0_17 fa (by omega) rfl ?_
  refine x_aload_n dX0_addThing_13 0 rfl ?_
  refine x_get (v := .int (nI n1)) dX0_addThing_14 fX0_37 fa (by omega) rfl ?_
  refine x_aload_n dX0_addThing_17 1 rfl ?_
  refine x_aastV (i := n1) rfl rfl dX0_addThing_18 fr (by omega) fq (by omega) (by omega) (by decide) (fun h101 a102 e103 l104 s105 => ?_)
  have f106 := (e103 a (by omega)).trans fa
  have f107 := (e103 q (by omega)).trans fq
  have sm108 := Sm.put sm0 e103 l104 s105 (by simp)
  refine x_aload_n dX0_addThing_19 0 rfl ?_
  refine x_dup dX0_addThing_20 rfl ?_
  refine x_get (v := .int (nI n1)) dX0_addThing_21 fX0_37 f106 (by omega) rfl ?_
  refine x_iconst (v := 1) dX0_addThing_24 (by decide) ?_
  refine x_iaddN (a := n1) (b := 1) dX0_addThing_25 ?_
  refine x_put (fs2 := [.ref (a + 1), .ref (a + 2), .ref (a + 3), .ref (a + 4), .int (nI n0), .int (nI (n1 + 1)), .int (nI n2), .int (nI n3), .int ln, .int dy]) dX0_addThing_26 fX0_37 (Or.inl rfl) f106 (by omega) rfl rfl (Nat.le_of_ble_eq_true rfl) rfl (fun h109 a110 e111 l112 s113 => ?_)
  have f114 := (e111 (a + 2) (by omega)).trans a102
  have f115 := (e111 q (by omega)).trans f107
  have sm116 := Sm.put sm108 e111 l112 s113 (by simp)
  exact x_vret dX0_addThing_29 rfl ⟨rfl, sm116, a110, f114⟩

set_option maxRecDepth 100000 in
set_option maxHeartbeats 4000000 in
theorem c_addBox {G : GT} {h : List PE} {a q n0 n1 n2 n3 : Nat} {ln dy : Int32} {z : Nat → Option Nat} {fs : List Value} (hn : n2 < 8) (ha : 3 ≤ a) (hq : a + 5 ≤ q) (fa : h[a]? = some (cO 0 [.ref (a + 1), .ref (a + 2), .ref (a + 3), .ref (a + 4), .int (nI n0), .int (nI n1), .int (nI n2), .int (nI n3), .int ln, .int dy])) (fr : h[a + 3]? = some (cR 6 8 z)) (fq : h[q]? = some (cO 2 fs)) : CT G mX0_addBox 0 0 [.ref a, .ref q] h (fun o => o.1 = none ∧ Sm [a, a + 3] h o.2 ∧ o.2[a]? = some (cO 0 [.ref (a + 1), .ref (a + 2), .ref (a + 3), .ref (a + 4), .int (nI n0), .int (nI n1), .int (nI (n2 + 1)), .int (nI n3), .int ln, .int dy]) ∧ o.2[a + 3]? = some (cR 6 8 (va_up z n2 (some q)))) := by
  have sm0 : Sm [a, a + 3] h h := Sm.rf
  show X (NF G) G mX0_addBox 0 0 0 [(0, .ref a), (1, .ref q)] [] h _
  refine x_aload_n dX0_addBox_0 0 rfl ?_
  refine x_get (v := .int (nI n2)) dX0_addBox_1 fX0_40 fa (by omega) rfl ?_
  refine x_bipush (v := 8) dX0_addBox_4 (by decide) ?_
  refine x_icmp_geN (tgt := 29) (a := n2) (b := 8) (by omega) (by omega) dX0_addBox_6 (by decide) (fun c_6 => absurd c_6 (by omega)) (fun c_6 => ?_)
  refine x_aload_n dX0_addBox_9 0 rfl ?_
  refine x_get (v := .ref (a + 3)) dX0_addBox_10 fX0_23 fa (by omega) rfl ?_
  refine x_aload_n dX0_addBox_13 0 rfl ?_
  refine x_get (v := .int (nI n2)) dX0_addBox_14 fX0_40 fa (by omega) rfl ?_
  refine x_aload_n dX0_addBox_17 1 rfl ?_
  refine x_aastV (i := n2) rfl rfl dX0_addBox_18 fr (by omega) fq (by omega) (by omega) (by decide) (fun h101 a102 e103 l104 s105 => ?_)
  have f106 := (e103 a (by omega)).trans fa
  have f107 := (e103 q (by omega)).trans fq
  have sm108 := Sm.put sm0 e103 l104 s105 (by simp)
  refine x_aload_n dX0_addBox_19 0 rfl ?_
  refine x_dup dX0_addBox_20 rfl ?_
  refine x_get (v := .int (nI n2)) dX0_addBox_21 fX0_40 f106 (by omega) rfl ?_
  refine x_iconst (v := 1) dX0_addBox_24 (by decide) ?_
  refine x_iaddN (a := n2) (b := 1) dX0_addBox_25 ?_
  refine x_put (fs2 := [.ref (a + 1), .ref (a + 2), .ref (a + 3), .ref (a + 4), .int (nI n0), .int (nI n1), .int (nI (n2 + 1)), .int (nI n3), .int ln, .int dy]) dX0_addBox_26 fX0_40 (Or.inl rfl) f106 (by omega) rfl rfl (Nat.le_of_ble_eq_true rfl) rfl (fun h109 a110 e111 l112 s113 => ?_)
  have f114 := (e111 (a + 3) (by omega)).trans a102
  have f115 := (e111 q (by omega)).trans f107
  have sm116 := Sm.put sm108 e111 l112 s113 (by simp)
  exact x_vret dX0_addBox_29 rfl ⟨rfl, sm116, a110, f114⟩

set_option maxRecDepth 100000 in
set_option maxHeartbeats 4000000 in
theorem c_addDrop {G : GT} {h : List PE} {a q n0 n1 n2 n3 : Nat} {ln dy : Int32} {z : Nat → Option Nat} {fs : List Value} (hn : n3 < 20) (ha : 3 ≤ a) (hq : a + 5 ≤ q) (fa : h[a]? = some (cO 0 [.ref (a + 1), .ref (a + 2), .ref (a + 3), .ref (a + 4), .int (nI n0), .int (nI n1), .int (nI n2), .int (nI n3), .int ln, .int dy])) (fr : h[a + 4]? = some (cR 7 20 z)) (fq : h[q]? = some (cO 5 fs)) : CT G mX0_addDrop 0 0 [.ref a, .ref q] h (fun o => o.1 = none ∧ Sm [a, a + 4] h o.2 ∧ o.2[a]? = some (cO 0 [.ref (a + 1), .ref (a + 2), .ref (a + 3), .ref (a + 4), .int (nI n0), .int (nI n1), .int (nI n2), .int (nI (n3 + 1)), .int ln, .int dy]) ∧ o.2[a + 4]? = some (cR 7 20 (va_up z n3 (some q)))) := by
  have sm0 : Sm [a, a + 4] h h := Sm.rf
  show X (NF G) G mX0_addDrop 0 0 0 [(0, .ref a), (1, .ref q)] [] h _
  refine x_aload_n dX0_addDrop_0 0 rfl ?_
  refine x_get (v := .int (nI n3)) dX0_addDrop_1 fX0_43 fa (by omega) rfl ?_
  refine x_bipush (v := 20) dX0_addDrop_4 (by decide) ?_
  refine x_icmp_geN (tgt := 29) (a := n3) (b := 20) (by omega) (by omega) dX0_addDrop_6 (by decide) (fun c_6 => absurd c_6 (by omega)) (fun c_6 => ?_)
  refine x_aload_n dX0_addDrop_9 0 rfl ?_
  refine x_get (v := .ref (a + 4)) dX0_addDrop_10 fX0_29 fa (by omega) rfl ?_
  refine x_aload_n dX0_addDrop_13 0 rfl ?_
  refine x_get (v := .int (nI n3)) dX0_addDrop_14 fX0_43 fa (by omega) rfl ?_
  refine x_aload_n dX0_addDrop_17 1 rfl ?_
  refine x_aastV (i := n3) rfl rfl dX0_addDrop_18 fr (by omega) fq (by omega) (by omega) (by decide) (fun h101 a102 e103 l104 s105 => ?_)
  have f106 := (e103 a (by omega)).trans fa
  have f107 := (e103 q (by omega)).trans fq
  have sm108 := Sm.put sm0 e103 l104 s105 (by simp)
  refine x_aload_n dX0_addDrop_19 0 rfl ?_
  refine x_dup dX0_addDrop_20 rfl ?_
  refine x_get (v := .int (nI n3)) dX0_addDrop_21 fX0_43 f106 (by omega) rfl ?_
  refine x_iconst (v := 1) dX0_addDrop_24 (by decide) ?_
  refine x_iaddN (a := n3) (b := 1) dX0_addDrop_25 ?_
  refine x_put (fs2 := [.ref (a + 1), .ref (a + 2), .ref (a + 3), .ref (a + 4), .int (nI n0), .int (nI n1), .int (nI n2), .int (nI (n3 + 1)), .int ln, .int dy]) dX0_addDrop_26 fX0_43 (Or.inl rfl) f106 (by omega) rfl rfl (Nat.le_of_ble_eq_true rfl) rfl (fun h109 a110 e111 l112 s113 => ?_)
  have f114 := (e111 (a + 4) (by omega)).trans a102
  have f115 := (e111 q (by omega)).trans f107
  have sm116 := Sm.put sm108 e111 l112 s113 (by simp)
  exact x_vret dX0_addDrop_29 rfl ⟨rfl, sm116, a110, f114⟩

set_option maxRecDepth 100000 in
set_option maxHeartbeats 4000000 in
theorem c_addPoint {G : GT} {h : List PE} {q np : Nat} {ke pr x y : Int32} {g1 g2 : Nat → Int32} (hn : np < 8) (hq : 3 ≤ q) (fq : h[q]? = some (cO 6 [.ref (q + 1), .ref (q + 2), .int (nI np), .int ke, .int pr])) (f1 : h[(q + 1)]? = some (cI 8 g1)) (f2 : h[(q + 2)]? = some (cI 8 g2)) : CT G mX6_addPoint 0 0 [.ref q, .int x, .int y] h (fun o => o.1 = none ∧ Sm [q, q + 1, q + 2] h o.2 ∧ o.2[q]? = some (cO 6 [.ref (q + 1), .ref (q + 2), .int (nI (np + 1)), .int ke, .int pr]) ∧ o.2[q + 1]? = some (cI 8 (upd g1 np x)) ∧ o.2[q + 2]? = some (cI 8 (upd g2 np y))) := by
  have sm0 : Sm [q, q + 1, q + 2] h h := Sm.rf
  show X (NF G) G mX6_addPoint 0 0 0 [(0, .ref q), (1, .int x), (2, .int y)] [] h _
  refine x_aload_n dX6_addPoint_0 0 rfl ?_
  refine x_get (v := .int (nI np)) dX6_addPoint_1 fX6_18 fq (by omega) rfl ?_
  refine x_bipush (v := 8) dX6_addPoint_4 (by decide) ?_
  refine x_icmp_geN (tgt := 39) (a := np) (b := 8) (by omega) (by omega) dX6_addPoint_6 (by decide) (fun c_6 => absurd c_6 (by omega)) (fun c_6 => ?_)
  refine x_aload_n dX6_addPoint_9 0 rfl ?_
  refine x_get (v := .ref (q + 1)) dX6_addPoint_10 fX6_11 fq (by omega) rfl ?_
  refine x_aload_n dX6_addPoint_13 0 rfl ?_
  refine x_get (v := .int (nI np)) dX6_addPoint_14 fX6_18 fq (by omega) rfl ?_
  refine x_iload_n dX6_addPoint_17 1 rfl ?_
  refine x_iastN (i := np) dX6_addPoint_18 f1 (by omega) (by omega) (by decide) (fun h101 a102 e103 l104 s105 => ?_)
  have f106 := (e103 q (by omega)).trans fq
  have f107 := (e103 (q + 2) (by omega)).trans f2
  have sm108 := Sm.put sm0 e103 l104 s105 (by simp)
  refine x_aload_n dX6_addPoint_19 0 rfl ?_
  refine x_get (v := .ref (q + 2)) dX6_addPoint_20 fX6_15 f106 (by omega) rfl ?_
  refine x_aload_n dX6_addPoint_23 0 rfl ?_
  refine x_get (v := .int (nI np)) dX6_addPoint_24 fX6_18 f106 (by omega) rfl ?_
  refine x_iload_n dX6_addPoint_27 2 rfl ?_
  refine x_iastN (i := np) dX6_addPoint_28 f107 (by omega) (by omega) (by decide) (fun h109 a110 e111 l112 s113 => ?_)
  have f114 := (e111 q (by omega)).trans f106
  have f115 := (e111 (q + 1) (by omega)).trans a102
  have sm116 := Sm.put sm108 e111 l112 s113 (by simp)
  refine x_aload_n dX6_addPoint_29 0 rfl ?_
  refine x_dup dX6_addPoint_30 rfl ?_
  refine x_get (v := .int (nI np)) dX6_addPoint_31 fX6_18 f114 (by omega) rfl ?_
  refine x_iconst (v := 1) dX6_addPoint_34 (by decide) ?_
  refine x_iaddN (a := np) (b := 1) dX6_addPoint_35 ?_
  refine x_put (fs2 := [.ref (q + 1), .ref (q + 2), .int (nI (np + 1)), .int ke, .int pr]) dX6_addPoint_36 fX6_18 (Or.inl rfl) f114 (by omega) rfl rfl (Nat.le_of_ble_eq_true rfl) rfl (fun h117 a118 e119 l120 s121 => ?_)
  have f122 := (e119 (q + 1) (by omega)).trans f115
  have f123 := (e119 (q + 2) (by omega)).trans a110
  have sm124 := Sm.put sm116 e119 l120 s121 (by simp)
  exact x_vret dX6_addPoint_39 rfl ⟨rfl, sm124, a118, f122, f123⟩

set_option maxRecDepth 100000 in
set_option maxHeartbeats 4000000 in
theorem c_foamOnN {G : GT} {h : List PE} {q sd : Nat} {wt mk : Int32} {z2 : Nat → Option Nat} (hq : 3 ≤ q) (hs : sd < 6) (fq : h[q]? = some (cO 9 [.ref (q + 1), .ref (q + 2), .ref (q + 3), .ref (q + 4), .int wt, .int mk])) (f2 : h[(q + 2)]? = some (cR 4 6 z2)) (hz : z2 sd = none) : CT G mX9_foamOn 1 20 [.ref q, .int (nI sd)] h (fun o => o = (some .null, h)) := by
  show X (NF G) G mX9_foamOn 1 20 0 [(0, .ref q), (1, .int (nI sd))] [] h _
  refine x_iload_n dX9_foamOn_0 1 rfl ?_
  refine x_callSN (rf' := 0) (rl' := 0) [.int (nI sd)] [] dX9_foamOn_1 vX9_34 Y_X11_isSide rfl rfl (Nat.le_of_ble_eq_true rfl) (Nat.le_of_ble_eq_true rfl) (by decide) (by decide) c_isSide (fun _ _ e1 => ?_)
  cases e1
  rw [if_neg (show ¬ (nI sd < 0 ∨ (6 : Int32) ≤ nI sd) from fun z => z.elim (nI_pos (by omega)) (fun z => absurd ((nI_leI (a := 6) (by decide) (by omega)).mp z) (by omega)))]
  refine x_if_eq (tgt := 16) dX9_foamOn_4 (by decide) (fun c_4 => absurd c_4 (by decide)) (fun c_4 => ?_)
  refine x_aload_n dX9_foamOn_7 0 rfl ?_
  refine x_get (v := .ref (q + 2)) dX9_foamOn_8 fX9_17 fq (by omega) rfl ?_
  refine x_iload_n dX9_foamOn_11 1 rfl ?_
  refine x_aaldN (i := sd) (r := none) rfl dX9_foamOn_12 f2 (by omega) (by omega) (by decide) hz ?_
  refine x_goto (tgt := 17) dX9_foamOn_13 (by decide) ?_
  exact x_aret (r := none) dX9_foamOn_17 rfl (Or.inl ⟨_, rfl⟩) rfl

set_option maxRecDepth 100000 in
set_option maxHeartbeats 4000000 in
theorem c_foamOnS {G : GT} {h : List PE} {q sd : Nat} {wt mk : Int32} {z2 : Nat → Option Nat} (hq : 3 ≤ q) (hs : sd < 6) (fq : h[q]? = some (cO 9 [.ref (q + 1), .ref (q + 2), .ref (q + 3), .ref (q + 4), .int wt, .int mk])) (f2 : h[(q + 2)]? = some (cR 4 6 z2)) {b : Nat} (hz : z2 sd = some b) : CT G mX9_foamOn 1 20 [.ref q, .int (nI sd)] h (fun o => o = (some (.ref b), h)) := by
  show X (NF G) G mX9_foamOn 1 20 0 [(0, .ref q), (1, .int (nI sd))] [] h _
  refine x_iload_n dX9_foamOn_0 1 rfl ?_
  refine x_callSN (rf' := 0) (rl' := 0) [.int (nI sd)] [] dX9_foamOn_1 vX9_34 Y_X11_isSide rfl rfl (Nat.le_of_ble_eq_true rfl) (Nat.le_of_ble_eq_true rfl) (by decide) (by decide) c_isSide (fun _ _ e1 => ?_)
  cases e1
  rw [if_neg (show ¬ (nI sd < 0 ∨ (6 : Int32) ≤ nI sd) from fun z => z.elim (nI_pos (by omega)) (fun z => absurd ((nI_leI (a := 6) (by decide) (by omega)).mp z) (by omega)))]
  refine x_if_eq (tgt := 16) dX9_foamOn_4 (by decide) (fun c_4 => absurd c_4 (by decide)) (fun c_4 => ?_)
  refine x_aload_n dX9_foamOn_7 0 rfl ?_
  refine x_get (v := .ref (q + 2)) dX9_foamOn_8 fX9_17 fq (by omega) rfl ?_
  refine x_iload_n dX9_foamOn_11 1 rfl ?_
  refine x_aaldN (i := sd) (r := some b) rfl dX9_foamOn_12 f2 (by omega) (by omega) (by decide) hz ?_
  refine x_goto (tgt := 17) dX9_foamOn_13 (by decide) ?_
  exact x_aret (r := (some b)) dX9_foamOn_17 rfl (Or.inl ⟨_, rfl⟩) rfl

set_option maxRecDepth 100000 in
set_option maxHeartbeats 4000000 in
theorem c_putPad {G : GT} {h : List PE} {q sd b : Nat} {wt mk x y : Int32} {z2 : Nat → Option Nat} {z3 z4 : Nat → Int32} {fs : List Value} (hq : 3 ≤ q) (hs : sd < 6) (hb : 3 ≤ b) (hbq : b ≠ q ∧ b ≠ q + 2 ∧ b ≠ q + 3 ∧ b ≠ q + 4) (fq : h[q]? = some (cO 9 [.ref (q + 1), .ref (q + 2), .ref (q + 3), .ref (q + 4), .int wt, .int mk])) (f2 : h[(q + 2)]? = some (cR 4 6 z2)) (f3 : h[(q + 3)]? = some (cI 6 z3)) (f4 : h[(q + 4)]? = some (cI 6 z4)) (fb : h[b]? = some (cO 6 fs)) : CT G mX9_putPad 1 20 [.ref q, .int (nI sd), .ref b, .int x, .int y] h (fun o => o.1 = none ∧ Sm [q + 2, q + 3, q + 4] h o.2 ∧ o.2[q]? = some (cO 9 [.ref (q + 1), .ref (q + 2), .ref (q + 3), .ref (q + 4), .int wt, .int mk]) ∧ o.2[q + 2]? = some (cR 4 6 (va_up z2 sd (some b))) ∧ o.2[q + 3]? = some (cI 6 (upd z3 sd x)) ∧ o.2[q + 4]? = some (cI 6 (upd z4 sd y))) := by
  have sm0 : Sm [q + 2, q + 3, q + 4] h h := Sm.rf
  show X (NF G) G mX9_putPad 1 20 0 [(0, .ref q), (1, .int (nI sd)), (2, .ref b), (3, .int x), (4, .int y)] [] h _
  refine x_iload_n dX9_putPad_0 1 rfl ?_
  refine x_callSN (rf' := 0) (rl' := 0) [.int (nI sd)] [] dX9_putPad_1 vX9_34 Y_X11_isSide rfl rfl (Nat.le_of_ble_eq_true rfl) (Nat.le_of_ble_eq_true rfl) (by decide) (by decide) c_isSide (fun _ _ e1 => ?_)
  cases e1
  rw [if_neg (show ¬ (nI sd < 0 ∨ (6 : Int32) ≤ nI sd) from fun z => z.elim (nI_pos (by omega)) (fun z => absurd ((nI_leI (a := 6) (by decide) (by omega)).mp z) (by omega)))]
  refine x_if_eq (tgt := 29) dX9_putPad_4 (by decide) (fun c_4 => absurd c_4 (by decide)) (fun c_4 => ?_)
  refine x_aload_n dX9_putPad_7 0 rfl ?_
  refine x_get (v := .ref (q + 2)) dX9_putPad_8 fX9_17 fq (by omega) rfl ?_
  refine x_iload_n dX9_putPad_11 1 rfl ?_
  refine x_aload_n dX9_putPad_12 2 rfl ?_
  refine x_aastV (i := sd) rfl rfl dX9_putPad_13 f2 (by omega) fb (by omega) (by omega) (by decide) (fun h101 a102 e103 l104 s105 => ?_)
  have f106 := (e103 q (by omega)).trans fq
  have f107 := (e103 (q + 3) (by omega)).trans f3
  have f108 := (e103 (q + 4) (by omega)).trans f4
  have f109 := (e103 b (by omega)).trans fb
  have sm110 := Sm.put sm0 e103 l104 s105 (by simp)
  refine x_aload_n dX9_putPad_14 0 rfl ?_
  refine x_get (v := .ref (q + 3)) dX9_putPad_15 fX9_21 f106 (by omega) rfl ?_
  refine x_iload_n dX9_putPad_18 1 rfl ?_
  refine x_iload_n dX9_putPad_19 3 rfl ?_
  refine x_iastN (i := sd) dX9_putPad_20 f107 (by omega) (by omega) (by decide) (fun h111 a112 e113 l114 s115 => ?_)
  have f116 := (e113 q (by omega)).trans f106
  have f117 := (e113 (q + 2) (by omega)).trans a102
  have f118 := (e113 (q + 4) (by omega)).trans f108
  have f119 := (e113 b (by omega)).trans f109
  have sm120 := Sm.put sm110 e113 l114 s115 (by simp)
  refine x_aload_n dX9_putPad_21 0 rfl ?_
  refine x_get (v := .ref (q + 4)) dX9_putPad_22 fX9_24 f116 (by omega) rfl ?_
  refine x_iload_n dX9_putPad_25 1 rfl ?_
  refine x_iload dX9_putPad_26 4 rfl ?_
  refine x_iastN (i := sd) dX9_putPad_28 f118 (by omega) (by omega) (by decide) (fun h121 a122 e123 l124 s125 => ?_)
  have f126 := (e123 q (by omega)).trans f116
  have f127 := (e123 (q + 2) (by omega)).trans f117
  have f128 := (e123 (q + 3) (by omega)).trans a112
  have f129 := (e123 b (by omega)).trans f119
  have sm130 := Sm.put sm120 e123 l124 s125 (by simp)
  exact x_vret dX9_putPad_29 rfl ⟨rfl, sm130, f126, f127, f128, a122⟩

/-- the reserved WORDS as the constructor numbers them: word, its number so far, the row -/
def rsF : Nat → Nat × Int64 × (Nat → Int64)
  | 0 => (0, 0, fun _ => 0)
  | i + 1 => if scB.getD i 0 = 32 then ((rsF i).1 + 1, 0, vp_updL (rsF i).2.2 (rsF i).1 (rsF i).2.1) else ((rsF i).1, (rsF i).2.1 * 32 + (scB.getD i 0).toInt64 - 97 + 1, (rsF i).2.2)
set_option maxRecDepth 100000 in
theorem rs_lt : ∀ i, i < 91 → (rsF i).1 < 17 := by decide +kernel
set_option maxRecDepth 100000 in
theorem rs_end : ∀ w, w < 17 → (rsF 91).2.2 w = lN (k32 w) := by decide +kernel

set_option maxRecDepth 100000 in
set_option maxHeartbeats 4000000 in
theorem l_X10 {G : GT} {h0 : List PE} (hG : GS G) (f70 : h0[7]? = some (cO 10 [.ref 8, .ref 9, .ref 10, .ref 11, .int 0, .int 0])) : ∀ (m i : Nat) (h : List PE), 91 - i = m → i ≤ 91 → Sm [8] h0 h → h[8]? = some (cJ 17 (rsF i).2.2) → X (NF G) G mX10_init 5 120 56 [(4, .int (nI i)), (2, .long (rsF i).2.1), (1, .int (nI ((rsF i).1))), (0, .ref 7)] [] h (fun o => o.1 = none ∧ Sm [8] h0 o.2 ∧ o.2[8]? = some (cJ 17 (rsF 91).2.2)) := by
  intro m
  induction m with
  | zero =>
    intro i h hm hi sm f8
    have ei : i = 91 := by omega
    subst ei
    have f7 := sm.at f70 (by decide)
    refine x_iload dX10_init_56 0 rfl ?_
    refine x_ldcS hG rfl dX10_init_58 ?_
    refine x_callStr (rf' := 1) (rl' := 20) hG [] [.int (nI 91)] dX10_init_60 sv_len rfl Y_J0_length_8abf5 rfl rfl (Nat.le_of_ble_eq_true rfl) (Nat.le_of_ble_eq_true rfl) (by decide) (by decide) (c_strLen hG) (fun _ _ e => ?_)
    cases e
    refine x_icmp_ge (tgt := 120) dX10_init_63 (by decide) (fun c_63 => ?_) (fun c_63 => absurd (by decide) c_63)
    exact x_vret dX10_init_120 rfl ⟨rfl, sm, f8⟩
  | succ m ih =>
    intro i h hm hi sm f8
    have hw := rs_lt i (by omega)
    have f7 := sm.at f70 (by decide)
    refine x_iload dX10_init_56 0 rfl ?_
    refine x_ldcS hG rfl dX10_init_58 ?_
    refine x_callStr (rf' := 1) (rl' := 20) hG [] [.int (nI i)] dX10_init_60 sv_len rfl Y_J0_length_8abf5 rfl rfl (Nat.le_of_ble_eq_true rfl) (Nat.le_of_ble_eq_true rfl) (by decide) (by decide) (c_strLen hG) (fun _ _ e => ?_)
    cases e
    refine x_icmp_geN (tgt := 120) (a := i) (b := 91) (by omega) (by omega) dX10_init_63 (by decide) (fun c_63 => absurd c_63 (by omega)) (fun c_63 => ?_)
    refine x_iload_n dX10_init_66 2 rfl ?_
    refine x_aload_n dX10_init_67 3 rfl ?_
    refine x_get (v := .ref 8) dX10_init_68 fX10_9 f7 (by decide) rfl ?_
    refine x_alen (v := 17) rfl dX10_init_71 f8 (by decide) rfl ?_
    refine x_icmp_geN (tgt := 120) (a := ((rsF i).1)) (b := 17) (by omega) (by omega) dX10_init_72 (by decide) (fun c_72 => absurd c_72 (by omega)) (fun c_72 => ?_)
    refine x_ldcS hG rfl dX10_init_75 ?_
    refine x_iload dX10_init_77 0 rfl ?_
    refine x_callStr (rf' := 3) (rl' := 64) hG [.int (nI i)] [] dX10_init_79 sv_chr rfl Y_J0_charAt_5068e rfl rfl (Nat.le_of_ble_eq_true rfl) (Nat.le_of_ble_eq_true rfl) (by decide) (by decide) (c_chr hG (by omega)) (fun _ _ e101 => ?_)
    cases e101
    refine x_bipush (v := 32) dX10_init_82 (by decide) ?_
    refine x_icmp_ne (tgt := 102) dX10_init_84 (by decide) (fun c_84 => ?_) (fun c_84 => ?_)
    · refine x_lload_n dX10_init_102 1 rfl ?_
      refine x_ldcS hG rfl dX10_init_103 ?_
      refine x_iload dX10_init_105 0 rfl ?_
      refine x_callStr (rf' := 3) (rl' := 64) hG [.int (nI i)] [.long (rsF i).2.1] dX10_init_107 sv_chr rfl Y_J0_charAt_5068e rfl rfl (Nat.le_of_ble_eq_true rfl) (Nat.le_of_ble_eq_true rfl) (by decide) (by decide) (c_chr hG (by omega)) (fun _ _ e102 => ?_)
      cases e102
      refine x_callS (rf' := 0) (rl' := 0) [.long (rsF i).2.1, .int (scB.getD i 0)] [] dX10_init_110 vX10_41 Y_X10_withLetter rfl rfl (Nat.le_of_ble_eq_true rfl) (Nat.le_of_ble_eq_true rfl) (by decide) (by decide) c_withLetter (fun _ _ e103 => ?_)
      cases e103
      refine x_lstore_n (lv2 := [(2, .long ((rsF i).2.1 * 32 + (scB.getD i 0).toInt64 - 97 + 1)), (4, .int (nI i)), (1, .int (nI ((rsF i).1))), (0, .ref 7)]) dX10_init_113 (by decide) rfl ?_
      refine x_iincN (lv2 := [(4, .int (nI (i + 1))), (2, .long ((rsF i).2.1 * 32 + (scB.getD i 0).toInt64 - 97 + 1)), (1, .int (nI ((rsF i).1))), (0, .ref 7)]) dX10_init_114 1 rfl (by decide) rfl ?_
      refine x_goto (tgt := 56) dX10_init_117 (by decide) ?_
      have eS : rsF (i + 1) = ((rsF i).1, (rsF i).2.1 * 32 + (scB.getD i 0).toInt64 - 97 + 1, (rsF i).2.2) := by rw [rsF, if_neg c_84]
      have I := ih (i + 1) h (by omega) (by omega) sm (by rw [eS]; exact f8)
      rw [eS] at I
      refine x_perm [0, 1, 2, 3] rfl ?_
      exact I
    · refine x_aload_n dX10_init_87 3 rfl ?_
      refine x_get (v := .ref 8) dX10_init_88 fX10_9 f7 (by decide) rfl ?_
      refine x_iload_n dX10_init_91 2 rfl ?_
      refine x_lload_n dX10_init_92 1 rfl ?_
      refine x_lastN (i := ((rsF i).1)) dX10_init_93 f8 (by decide) (by omega) (by decide) (fun h104 a105 e106 l107 s108 => ?_)
      have f109 := (e106 7 (by decide)).trans f7
      have sm110 := Sm.put sm e106 l107 s108 (by decide)
      refine x_iincN (lv2 := [(1, .int (nI (((rsF i).1) + 1))), (4, .int (nI i)), (2, .long (rsF i).2.1), (0, .ref 7)]) dX10_init_94 2 rfl (by decide) rfl ?_
      refine x_lconst (v := 0) dX10_init_97 (by decide) ?_
      refine x_lstore_n (lv2 := [(2, .long 0), (1, .int (nI (((rsF i).1) + 1))), (4, .int (nI i)), (0, .ref 7)]) dX10_init_98 (by decide) rfl ?_
      refine x_goto (tgt := 114) dX10_init_99 (by decide) ?_
      refine x_iincN (lv2 := [(4, .int (nI (i + 1))), (2, .long 0), (1, .int (nI (((rsF i).1) + 1))), (0, .ref 7)]) dX10_init_114 2 rfl (by decide) rfl ?_
      refine x_goto (tgt := 56) dX10_init_117 (by decide) ?_
      have eS : rsF (i + 1) = ((rsF i).1 + 1, (0 : Int64), vp_updL (rsF i).2.2 (rsF i).1 (rsF i).2.1) := by rw [rsF, if_pos c_84]
      have I := ih (i + 1) h104 (by omega) (by omega) sm110 (by rw [eS]; exact a105)
      rw [eS] at I
      refine x_perm [0, 1, 2, 3] rfl ?_
      exact I

set_option maxRecDepth 100000 in
set_option maxHeartbeats 4000000 in
theorem ti_of {G : GT} (hG : GS G) : TI G := by
  intro h hl fq
  have sm0 : Gr 8 [7] 0 0 h h := Gr.rf
  show X (NF G) G mX10_init 5 120 0 [(0, .ref 7)] [] h _
  refine x_aload_n dX10_init_0 0 rfl ?_
  refine x_objInit dX10_init_1 oX10_1 oI_inst oI_code (by decide) (Nat.le_of_ble_eq_true rfl) ?_
  refine x_aload_n dX10_init_4 0 rfl ?_
  refine x_bipush (v := 17) dX10_init_5 (by decide) ?_
  refine x_newa (t := 1) (N := 17) (ty := .long) (x := (17, .inr (.inl (fun _ => 0)))) dX10_init_7 rfl rfl (by simp) ac_long (fun _ => rfl) rfl (by decide) (by decide) (by decide) (fun h101 q102 ea103 a104 e105 l106 s107 => ?_)
  have lm108 := sm0.2.1
  have f109 := (e105 7 (by have := lt_at fq; omega)).trans fq
  have sm110 := Gr.new sm0 ea103 e105 l106 s107
  have el111 : q102 = 8 := by omega
  subst el111
  refine x_put (fs2 := [.ref 8, .null, .null, .null, .int 0, .int 0]) dX10_init_9 fX10_9 (Or.inr ⟨rfl, _, rfl, rfl⟩) f109 (by decide) rfl rfl (Nat.le_of_ble_eq_true rfl) rfl (fun h112 a113 e114 l115 s116 => ?_)
  have f117 := (e114 8 (by decide)).trans a104
  have sm118 := Gr.put sm110 e114 l115 s116 (Or.inl (by decide))
  refine x_aload_n dX10_init_12 0 rfl ?_
  refine x_sipush (v := 600) dX10_init_13 (by decide) ?_
  refine x_newa (t := 0) (N := 600) (ty := .int) (x := (600, .inl (fun _ => 0))) dX10_init_16 rfl rfl (by simp) ac_int (fun _ => rfl) rfl (by decide) (by decide) (by decide) (fun h119 q120 ea121 a122 e123 l124 s125 => ?_)
  have lm126 := sm118.2.1
  have f127 := (e123 7 (by have := lt_at a113; omega)).trans a113
  have f128 := (e123 8 (by have := lt_at f117; omega)).trans f117
  have sm129 := Gr.new sm118 ea121 e123 l124 s125
  have el130 : q120 = 9 := by omega
  subst el130
  refine x_put (fs2 := [.ref 8, .ref 9, .null, .null, .int 0, .int 0]) dX10_init_18 fX10_13 (Or.inr ⟨rfl, _, rfl, rfl⟩) f127 (by decide) rfl rfl (Nat.le_of_ble_eq_true rfl) rfl (fun h131 a132 e133 l134 s135 => ?_)
  have f136 := (e133 8 (by decide)).trans f128
  have f137 := (e133 9 (by decide)).trans a122
  have sm138 := Gr.put sm129 e133 l134 s135 (Or.inl (by decide))
  refine x_aload_n dX10_init_21 0 rfl ?_
  refine x_sipush (v := 600) dX10_init_22 (by decide) ?_
  refine x_newa (t := 0) (N := 600) (ty := .int) (x := (600, .inl (fun _ => 0))) dX10_init_25 rfl rfl (by simp) ac_int (fun _ => rfl) rfl (by decide) (by decide) (by decide) (fun h139 q140 ea141 a142 e143 l144 s145 => ?_)
  have lm146 := sm138.2.1
  have f147 := (e143 7 (by have := lt_at a132; omega)).trans a132
  have f148 := (e143 8 (by have := lt_at f136; omega)).trans f136
  have f149 := (e143 9 (by have := lt_at f137; omega)).trans f137
  have sm150 := Gr.new sm138 ea141 e143 l144 s145
  have el151 : q140 = 10 := by omega
  subst el151
  refine x_put (fs2 := [.ref 8, .ref 9, .ref 10, .null, .int 0, .int 0]) dX10_init_27 fX10_17 (Or.inr ⟨rfl, _, rfl, rfl⟩) f147 (by decide) rfl rfl (Nat.le_of_ble_eq_true rfl) rfl (fun h152 a153 e154 l155 s156 => ?_)
  have f157 := (e154 8 (by decide)).trans f148
  have f158 := (e154 9 (by decide)).trans f149
  have f159 := (e154 10 (by decide)).trans a142
  have sm160 := Gr.put sm150 e154 l155 s156 (Or.inl (by decide))
  refine x_aload_n dX10_init_30 0 rfl ?_
  refine x_sipush (v := 600) dX10_init_31 (by decide) ?_
  refine x_newa (t := 1) (N := 600) (ty := .long) (x := (600, .inr (.inl (fun _ => 0)))) dX10_init_34 rfl rfl (by simp) ac_long (fun _ => rfl) rfl (by decide) (by decide) (by decide) (fun h161 q162 ea163 a164 e165 l166 s167 => ?_)
  have lm168 := sm160.2.1
  have f169 := (e165 7 (by have := lt_at a153; omega)).trans a153
  have f170 := (e165 8 (by have := lt_at f157; omega)).trans f157
  have f171 := (e165 9 (by have := lt_at f158; omega)).trans f158
  have f172 := (e165 10 (by have := lt_at f159; omega)).trans f159
  have sm173 := Gr.new sm160 ea163 e165 l166 s167
  have el174 : q162 = 11 := by omega
  subst el174
  refine x_put (fs2 := [.ref 8, .ref 9, .ref 10, .ref 11, .int 0, .int 0]) dX10_init_36 fX10_20 (Or.inr ⟨rfl, _, rfl, rfl⟩) f169 (by decide) rfl rfl (Nat.le_of_ble_eq_true rfl) rfl (fun h175 a176 e177 l178 s179 => ?_)
  have f180 := (e177 8 (by decide)).trans f170
  have f181 := (e177 9 (by decide)).trans f171
  have f182 := (e177 10 (by decide)).trans f172
  have f183 := (e177 11 (by decide)).trans a164
  have sm184 := Gr.put sm173 e177 l178 s179 (Or.inl (by decide))
  refine x_aload_n dX10_init_39 0 rfl ?_
  refine x_iconst (v := 0) dX10_init_40 (by decide) ?_
  refine x_put (fs2 := [.ref 8, .ref 9, .ref 10, .ref 11, .int 0, .int 0]) dX10_init_41 fX10_23 (Or.inl rfl) a176 (by decide) rfl rfl (Nat.le_of_ble_eq_true rfl) rfl (fun h185 a186 e187 l188 s189 => ?_)
  have f190 := (e187 8 (by decide)).trans f180
  have f191 := (e187 9 (by decide)).trans f181
  have f192 := (e187 10 (by decide)).trans f182
  have f193 := (e187 11 (by decide)).trans f183
  have sm194 := Gr.put sm184 e187 l188 s189 (Or.inl (by decide))
  refine x_aload_n dX10_init_44 0 rfl ?_
  refine x_iconst (v := 0) dX10_init_45 (by decide) ?_
  refine x_put (fs2 := [.ref 8, .ref 9, .ref 10, .ref 11, .int 0, .int 0]) dX10_init_46 fX10_27 (Or.inl rfl) a186 (by decide) rfl rfl (Nat.le_of_ble_eq_true rfl) rfl (fun h195 a196 e197 l198 s199 => ?_)
  have f200 := (e197 8 (by decide)).trans f190
  have f201 := (e197 9 (by decide)).trans f191
  have f202 := (e197 10 (by decide)).trans f192
  have f203 := (e197 11 (by decide)).trans f193
  have sm204 := Gr.put sm194 e197 l198 s199 (Or.inl (by decide))
  refine x_iconst (v := 0) dX10_init_49 (by decide) ?_
  refine x_istore_n (lv2 := [(1, .int 0), (0, .ref 7)]) dX10_init_50 (by decide) rfl ?_
  refine x_lconst (v := 0) dX10_init_51 (by decide) ?_
  refine x_lstore_n (lv2 := [(2, .long 0), (1, .int 0), (0, .ref 7)]) dX10_init_52 (by decide) rfl ?_
  refine x_iconst (v := 0) dX10_init_53 (by decide) ?_
  refine x_istore (lv2 := [(4, .int 0), (2, .long 0), (1, .int 0), (0, .ref 7)]) dX10_init_54 (by decide) rfl ?_
  refine x_perm (lv2 := [(4, .int (nI 0)), (2, .long (rsF 0).2.1), (1, .int (nI ((rsF 0).1))), (0, .ref 7)]) [0, 1, 2, 3] rfl ?_
  refine (l_X10 hG a196 91 0 h195 rfl (by decide) Sm.rf f200).weaken (fun o ho => ?_)
  obtain ⟨o1, o2, o3⟩ := ho
  exact ⟨o1, by have := o2.1; omega, o2.at a196 (by decide), ⟨_, o3, rs_end⟩, o2.at f201 (by decide), o2.at f202 (by decide), o2.at f203 (by decide), Gr.sm sm204 o2 (fun x hx => Or.inr (by have := List.mem_singleton.mp hx; omega))⟩

def SV (own : String) (idx : Nat) (y : MethodName) : Prop := Cond.methodLink own idx y ∈ lw_tbl ∧ Cond.instanceMethod y ∈ lw_tbl ∧ Cond.selects "java/lang/String" y y ∈ lw_tbl
theorem sv_len : SV "FoamArms$Tokens" 32 ⟨"java/lang/String", "length", "()I"⟩ := ⟨inT1 (List.mem_of_getElem? (i := 63) (by decide +kernel)), inT1 (List.mem_of_getElem? (i := 64) (by decide +kernel)), inT1 (List.mem_of_getElem? (i := 65) (by decide +kernel))⟩
theorem sv_chr : SV "FoamArms$Tokens" 37 ⟨"java/lang/String", "charAt", "(I)C"⟩ := ⟨inT1 (List.mem_of_getElem? (i := 73) (by decide +kernel)), inT1 (List.mem_of_getElem? (i := 74) (by decide +kernel)), inT1 (List.mem_of_getElem? (i := 75) (by decide +kernel))⟩
theorem sv_cod : SV "java/lang/String" 335 ⟨"java/lang/String", "coder", "()B"⟩ := ⟨inT1 (List.mem_of_getElem? (i := 67) (by decide +kernel)), inT1 (List.mem_of_getElem? (i := 68) (by decide +kernel)), inT1 (List.mem_of_getElem? (i := 69) (by decide +kernel))⟩
theorem sv_lat : SV "java/lang/String" 492 ⟨"java/lang/String", "isLatin1", "()Z"⟩ := ⟨inT1 (List.mem_of_getElem? (i := 77) (by decide +kernel)), inT1 (List.mem_of_getElem? (i := 78) (by decide +kernel)), inT1 (List.mem_of_getElem? (i := 79) (by decide +kernel))⟩
section XS2
variable {Ω : Type} {F : FT Ω} {G : GT} {M : MT} {rf rl pc : Nat} {lv : List (Nat × Value)} {st : List Value} {h : List PE} {Q : Ω → Prop}
theorem x_callStr {idx : Nat} {y : MethodName} {cc : ByteArray} {nL n : Nat} {ret : Option FieldType} {rf' rl' : Nat} {Q1 : OT → Prop} (hG : GS G) (As rest : List Value) (hd : decode M.2.1 pc = .ok (.invokevirtual idx, 3)) (hV : SV M.1.cls idx y) (hy : y.cls = "java/lang/String") (hY : YL y cc nL ret n) (hn : As.length = n) (hst : st = As.reverse ++ .ref 1 :: rest) (hcat : (rest.map fun v => v.category).sum ≤ 8) (hfit : (lg_sl (.ref 1 :: As)).length ≤ nL) (hf : rf' + 1 ≤ rf) (hl : 8 + (nL + 11) + rl' ≤ rl)
    (callee : X (NF G) G (y, cc, nL, ret) rf' rl' 0 (lv_args 0 (.ref 1 :: As)) [] h Q1) (k : ∀ (r : Option Value) (h1 : List PE), Q1 (r, h1) → X F G M rf rl (pc + 3) lv (r.toList ++ rest) h1 Q) : X F G M rf rl pc lv st h Q := by
  subst hst
  obtain ⟨⟨r1, h1⟩, q1, l1, l2, hM⟩ := met_of_X hY.2.2.2.2.2 hfit callee
  refine X.stepC (o1 := (r1, h1)) (av := ((.ref 1 :: As).map (g_v G)).toArray) (rest := rest) l1 l2 (fun p e R s m args below meth c H locs k9 n9 ls C hf9 hl9 hk9 hn9 hr hS hsz => ?_) (k r1 h1 q1)
  have hO := C.2.2.2.2.2.2.2.2
  obtain ⟨v1, v2, v3⟩ := hV
  rw [← hy] at v3
  exact va_runV (C := y.cls) (Ts := []) (As := As.map (g_v G)) (rest := rest.map (g_v G)) (b := g_ad G 1) ⟨C.2.1, C.2.2.1, C.2.2.2.2.1, C.2.2.2.2.2.1, fun _ h => nomatch h⟩ hM ⟨mk_CB C.1 hO hY v1 (by omega) (by omega), g_word C.1 hO v2 rfl, g_word C.1 hO v3 rfl⟩
    ⟨mk_blind, by rw [hy]; exact vk_recv (i := 0) (gs_S hG hO) (by decide) hS, fun U hU hW => ⟨rfl, C.1, mk_old hO hS hU hW, by rw [hU]; exact hr⟩⟩ rfl (by rw [List.length_map]; exact hn) hsz (by simp [g_v]) (by show 2 * 0 + _ ≤ _; rw [sum_cat_g]; omega) hd ⟨hk9, hn9⟩
end XS2
theorem c_coder {G : GT} {h : List PE} (hG : GS G) : CT G mJ0_coder_7d493 0 0 [.ref 1] h (fun o => o = (some (.int 0), h)) := by
  show X (NF G) G mJ0_coder_7d493 0 0 0 [(0, .ref 1)] [] h _
  refine x_strZ hG rfl dJ0_coder_7d493_0 ?_
  refine x_if_eq (tgt := 13) dJ0_coder_7d493_3 (by decide) (fun c => absurd c (by decide)) (fun c => ?_)
  refine x_aload_n dJ0_coder_7d493_6 0 rfl ?_
  refine x_strC hG rfl dJ0_coder_7d493_7 ?_
  refine x_goto (tgt := 14) dJ0_coder_7d493_10 (by decide) ?_
  exact x_zret dJ0_coder_7d493_14 rfl rfl rfl
theorem c_isLatin1 {G : GT} {h : List PE} (hG : GS G) : CT G mJ0_isLatin1_aae02 0 0 [.ref 1] h (fun o => o = (some (.int 1), h)) := by
  show X (NF G) G mJ0_isLatin1_aae02 0 0 0 [(0, .ref 1)] [] h _
  refine x_strZ hG rfl dJ0_isLatin1_aae02_0 ?_
  refine x_if_eq (tgt := 17) dJ0_isLatin1_aae02_3 (by decide) (fun c => absurd c (by decide)) (fun c => ?_)
  refine x_aload_n dJ0_isLatin1_aae02_6 0 rfl ?_
  refine x_strC hG rfl dJ0_isLatin1_aae02_7 ?_
  refine x_if_ne (tgt := 17) dJ0_isLatin1_aae02_10 (by decide) (fun c => absurd rfl c) (fun c => ?_)
  refine x_iconst (v := 1) dJ0_isLatin1_aae02_13 (by decide) ?_
  refine x_goto (tgt := 18) dJ0_isLatin1_aae02_14 (by decide) ?_
  exact x_zret dJ0_isLatin1_aae02_18 rfl rfl rfl
theorem c_strLen {G : GT} {h : List PE} (hG : GS G) : CT G mJ0_length_8abf5 1 20 [.ref 1] h (fun o => o = (some (.int 91), h)) := by
  show X (NF G) G mJ0_length_8abf5 1 20 0 [(0, .ref 1)] [] h _
  refine x_aload_n dJ0_length_8abf5_0 0 rfl ?_
  refine x_strV hG rfl dJ0_length_8abf5_1 ?_
  refine x_strL hG dJ0_length_8abf5_4 ?_
  refine x_aload_n dJ0_length_8abf5_5 0 rfl ?_
  refine x_callStr (rf' := 0) (rl' := 0) hG [] [.int 91] dJ0_length_8abf5_6 sv_cod rfl Y_J0_coder_7d493 rfl rfl (Nat.le_of_ble_eq_true rfl) (Nat.le_of_ble_eq_true rfl) (by decide) (by decide) (c_coder hG) (fun _ _ e => ?_)
  cases e
  refine x_ishr dJ0_length_8abf5_9 ?_
  exact x_iret dJ0_length_8abf5_10 rfl (congrArg (fun z => (some (Value.int z), h)) (by decide))

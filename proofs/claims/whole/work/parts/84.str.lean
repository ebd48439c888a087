/-! ===== the class's own String ===== -/
def scT : String := "foam thing box pad drop keeps price weighs size mark room bears side thick area from times "
def scB : List Int32 := [102, 111, 97, 109, 32, 116, 104, 105, 110, 103, 32, 98, 111, 120, 32, 112, 97, 100, 32, 100, 114, 111, 112, 32, 107, 101, 101, 112, 115, 32, 112, 114, 105, 99, 101, 32, 119, 101, 105, 103, 104, 115, 32, 115, 105, 122, 101, 32, 109, 97, 114, 107, 32, 114, 111, 111, 109, 32, 98, 101, 97, 114, 115, 32, 115, 105, 100, 101, 32, 116, 104, 105, 99, 107, 32, 97, 114, 101, 97, 32, 102, 114, 111, 109, 32, 116, 105, 109, 101, 115, 32]
theorem lk_val : Cond.fieldLink "java/lang/String" 9 "java/lang/String" "value" "[B" ∈ lw_tbl := inT7 (List.mem_of_getElem? (i := 6) (by decide +kernel))
theorem lk_cod : Cond.fieldLink "java/lang/String" 15 "java/lang/String" "coder" "B" ∈ lw_tbl := inT7 (List.mem_of_getElem? (i := 7) (by decide +kernel))
theorem lk_cs : Cond.fieldLink "java/lang/String" 38 "java/lang/String" "COMPACT_STRINGS" "Z" ∈ lw_tbl := inT1 (List.mem_of_getElem? (i := 71) (by decide +kernel))
theorem lk_fmt : Cond.fieldLink "java/lang/String" 1053 "jdk/internal/util/Preconditions" "SIOOBE_FORMATTER" "Ljava/util/function/BiFunction;" ∈ lw_tbl := inT1 (List.mem_of_getElem? (i := 87) (by decide +kernel))
theorem lk_scT : Cond.stringRef "FoamArms$Tokens" 30 scT ∈ lw_tbl := inT1 (List.mem_of_getElem? (i := 62) (by decide +kernel))
theorem lk_lsC : Cond.laysStatic "java/lang/String" "COMPACT_STRINGS" "Z" ∈ lw_tbl := inT1 (List.mem_of_getElem? (i := 72) (by decide +kernel))
theorem lk_lsF : Cond.laysStatic "jdk/internal/util/Preconditions" "SIOOBE_FORMATTER" "Ljava/util/function/BiFunction;" ∈ lw_tbl := inT1 (List.mem_of_getElem? (i := 88) (by decide +kernel))
/-- of the law's start: the String stands at the pure place 1, its bytes at 2 -/
def GS (G : GT) : Prop := vk_S 1 [91] [scB] (fun _ => g_o3 G 1) (fun _ => g_o3 G 2) (fun q => g_B G ≤ q) (g_s0 G) (g_s0 G).heap ∧ vk_R "FoamArms$Tokens" 30 scT (g_o3 G 1) (g_s0 G) ∧ va_Z "java/lang/String" "COMPACT_STRINGS" "Z" (.int 1) (fun q => g_B G ≤ q) (g_s0 G) (g_s0 G).heap ∧ va_Zq "jdk/internal/util/Preconditions" "SIOOBE_FORMATTER" "Ljava/util/function/BiFunction;" (fun q => g_B G ≤ q) (g_s0 G) (g_s0 G).heap
section XS
variable {Ω : Type} {F : FT Ω} {G : GT} {M : MT} {rf rl pc : Nat} {lv : List (Nat × Value)} {st : List Value} {h : List PE} {Q : Ω → Prop}
theorem od_kept {s : State} (ho : Od G s) : ∀ a : Nat, a < (g_s0 G).heap.size → ¬ (g_B G ≤ a) → s.heap[a]? = (g_s0 G).heap[a]? := fun a _ hn => ho.2.1 a (Nat.not_le.mp hn)
theorem gs_S {s : State} (hS : GS G) (ho : Od G s) : vk_S 1 [91] [scB] (fun _ => g_o3 G 1) (fun _ => g_o3 G 2) (fun q => g_B G ≤ q) s s.heap := (vk_S.moved ho.1.alike hS.1).kept (od_kept ho)
theorem gs_C {s : State} (hS : GS G) (ho : Od G s) : va_Z "java/lang/String" "COMPACT_STRINGS" "Z" (.int 1) (fun q => g_B G ≤ q) s s.heap := (va_Z.moved ho.1.alike hS.2.2.1).kept (od_kept ho)
theorem gs_F {s : State} (hS : GS G) (ho : Od G s) : va_Zq "jdk/internal/util/Preconditions" "SIOOBE_FORMATTER" "Ljava/util/function/BiFunction;" (fun q => g_B G ≤ q) s s.heap := (va_Zq.moved ho.1.alike hS.2.2.2).kept (od_kept ho)
theorem x_ldcS (hG : GS G) (hM : M.1.cls = "FoamArms$Tokens") (hd : decode M.2.1 pc = .ok (.ldc 30, 2)) (k : X F G M rf rl (pc + 2) lv (.ref 1 :: st) h Q) : X F G M rf rl pc lv st h Q :=
  X.step (fun p e R s m args below meth c H locs a' n ls Z C hv9 hr hS w => va_ldcS C.2.1 C.2.2.1 (by rw [← hM]; exact C.2.2.2.2.2.1) (vk_R.warm C.2.2.2.2.2.2.2.2.1 hG.2.1) hd w) k
theorem x_strV (hG : GS G) (hM : M.1.cls = "java/lang/String") (hd : decode M.2.1 pc = .ok (.getfield 9, 3)) (k : X F G M rf rl (pc + 3) lv (.ref 2 :: st) h Q) : X F G M rf rl pc lv (.ref 1 :: st) h Q :=
  X.step (fun p e R s m args below meth c H locs a' n ls Z C hv9 hr hS w => vk_getf C.2.1 C.2.2.1 ((gs_S hG C.2.2.2.2.2.2.2.2).1 0 (by decide)).2.2.1 hS (by rw [← hM]; exact C.2.2.2.2.2.1) (g_word C.1 C.2.2.2.2.2.2.2.2 lk_val rfl) (fun _ z => z) hd w) k
theorem x_strC (hG : GS G) (hM : M.1.cls = "java/lang/String") (hd : decode M.2.1 pc = .ok (.getfield 15, 3)) (k : X F G M rf rl (pc + 3) lv (.int 0 :: st) h Q) : X F G M rf rl pc lv (.ref 1 :: st) h Q :=
  X.step (fun p e R s m args below meth c H locs a' n ls Z C hv9 hr hS w => vk_getf C.2.1 C.2.2.1 ((gs_S hG C.2.2.2.2.2.2.2.2).1 0 (by decide)).2.1 hS (by rw [← hM]; exact C.2.2.2.2.2.1) (g_word C.1 C.2.2.2.2.2.2.2.2 lk_cod rfl) (fun _ z => z) hd w) k
theorem x_strL (hG : GS G) (hd : decode M.2.1 pc = .ok (.arraylength, 1)) (k : X F G M rf rl (pc + 1) lv (.int 91 :: st) h Q) : X F G M rf rl pc lv (.ref 2 :: st) h Q :=
  X.step (fun p e R s m args below meth c H locs a' n ls Z C hv9 hr hS w => va_tlen C.2.1 C.2.2.1 ((gs_S hG C.2.2.2.2.2.2.2.2).1 0 (by decide)).2.2.2 hS (v := 91) rfl hd w) k
theorem x_strB {i : Int32} (hG : GS G) (hin : vp_in i 91) (hd : decode M.2.1 pc = .ok (.baload, 1)) (k : X F G M rf rl (pc + 1) lv (.int (scB.getD i.toNatClampNeg 0) :: st) h Q) : X F G M rf rl pc lv (.int i :: .ref 2 :: st) h Q :=
  X.step (fun p e R s m args below meth c H locs a' n ls Z C hv9 hr hS w => va_tb C.2.1 C.2.2.1 ((gs_S hG C.2.2.2.2.2.2.2.2).1 0 (by decide)).2.2.2 hS hin rfl hd w) k
theorem x_strZ (hG : GS G) (hM : M.1.cls = "java/lang/String") (hd : decode M.2.1 pc = .ok (.getstatic 38, 3)) (k : X F G M rf rl (pc + 3) lv (.int 1 :: st) h Q) : X F G M rf rl pc lv st h Q :=
  X.step (fun p e R s m args below meth c H locs a' n ls Z C hv9 hr hS w => va_gets C.2.1 C.2.2.1 (gs_C hG C.2.2.2.2.2.2.2.2) hS (by rw [← hM]; exact C.2.2.2.2.2.1) (g_word C.1 C.2.2.2.2.2.2.2.2 lk_cs rfl) (fun _ z => z) hd w) k
end XS

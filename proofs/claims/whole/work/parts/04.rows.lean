section XS
variable {Ω : Type} {F : FT Ω} {G : GT} {M : MT} {rf rl pc : Nat} {lv : List (Nat × Value)} {st : List Value} {h : List PE} {Q : Ω → Prop}
theorem g_l_at {i k : Nat} {v : Value} (hk : lv[k]? = some (i, v)) : (g_l G lv)[k]? = some (i, g_v G v) := by rw [List.getElem?_map, hk]; rfl
theorem x_iconst {n : Int} {v : Int32} (hd : decode M.2.1 pc = .ok (.iconst n, 1)) (hv : Int32.ofInt n = v) (k : X F G M rf rl (pc + 1) lv (.int v :: st) h Q) : X F G M rf rl pc lv (st) h Q := X.step (fun p e R s m args below meth c H locs a n ls Z C hv hr hS w => lv_iconst C.2.1 C.2.2.1 hd (by assumption) w) k
theorem x_bipush {n : Int} {v : Int32} (hd : decode M.2.1 pc = .ok (.bipush n, 2)) (hv : (Int8.ofInt n).toInt32 = v) (k : X F G M rf rl (pc + 2) lv (.int v :: st) h Q) : X F G M rf rl pc lv (st) h Q := X.step (fun p e R s m args below meth c H locs a n ls Z C hv hr hS w => lv_bipush C.2.1 C.2.2.1 hd (by assumption) w) k
theorem x_sipush {n : Int} {v : Int32} (hd : decode M.2.1 pc = .ok (.sipush n, 3)) (hv : (Int16.ofInt n).toInt32 = v) (k : X F G M rf rl (pc + 3) lv (.int v :: st) h Q) : X F G M rf rl pc lv (st) h Q := X.step (fun p e R s m args below meth c H locs a n ls Z C hv hr hS w => lv_sipush C.2.1 C.2.2.1 hd (by assumption) w) k
theorem x_lconst {n : Fin 2} {v : Int64} (hd : decode M.2.1 pc = .ok (.lconst n, 1)) (hv : Int64.ofNat (n : Nat) = v) (k : X F G M rf rl (pc + 1) lv (.long v :: st) h Q) : X F G M rf rl pc lv (st) h Q := X.step (fun p e R s m args below meth c H locs a n ls Z C hv hr hS w => lv_lconst C.2.1 C.2.2.1 hd (by assumption) w) k
theorem x_iload_n {q : Fin 4} {x : Int32} (hd : decode M.2.1 pc = .ok (.iload_n q, 1)) (j : Nat) (hj : lv[j]? = some ((q : Nat), .int x)) (k : X F G M rf rl (pc + 1) lv (.int x :: st) h Q) : X F G M rf rl pc lv (st) h Q := X.step (fun p e R s m args below meth c H locs a n ls Z C hv hr hS w => lv_iload_n C.2.1 C.2.2.1 hd rfl (lv_at hv j (g_l_at hj)) w) k
theorem x_iload {i : Nat} {x : Int32} (hd : decode M.2.1 pc = .ok (.iload i, 2)) (j : Nat) (hj : lv[j]? = some (i, .int x)) (k : X F G M rf rl (pc + 2) lv (.int x :: st) h Q) : X F G M rf rl pc lv (st) h Q := X.step (fun p e R s m args below meth c H locs a n ls Z C hv hr hS w => lv_iload C.2.1 C.2.2.1 hd (lv_at hv j (g_l_at hj)) w) k
theorem x_lload_n {q : Fin 4} {x : Int64} (hd : decode M.2.1 pc = .ok (.lload_n q, 1)) (j : Nat) (hj : lv[j]? = some ((q : Nat), .long x)) (k : X F G M rf rl (pc + 1) lv (.long x :: st) h Q) : X F G M rf rl pc lv (st) h Q := X.step (fun p e R s m args below meth c H locs a n ls Z C hv hr hS w => lv_lload_n C.2.1 C.2.2.1 hd rfl (lv_at hv j (g_l_at hj)) w) k
theorem x_lload {i : Nat} {x : Int64} (hd : decode M.2.1 pc = .ok (.lload i, 2)) (j : Nat) (hj : lv[j]? = some (i, .long x)) (k : X F G M rf rl (pc + 2) lv (.long x :: st) h Q) : X F G M rf rl pc lv (st) h Q := X.step (fun p e R s m args below meth c H locs a n ls Z C hv hr hS w => lv_lload C.2.1 C.2.2.1 hd (lv_at hv j (g_l_at hj)) w) k
theorem x_aload_n {q : Fin 4} {x : Nat} (hd : decode M.2.1 pc = .ok (.aload_n q, 1)) (j : Nat) (hj : lv[j]? = some ((q : Nat), .ref x)) (k : X F G M rf rl (pc + 1) lv (.ref x :: st) h Q) : X F G M rf rl pc lv (st) h Q := X.step (fun p e R s m args below meth c H locs a n ls Z C hv hr hS w => lv_aload_n C.2.1 C.2.2.1 hd rfl (lv_at hv j (g_l_at hj)) w) k
theorem x_aload {i : Nat} {x : Nat} (hd : decode M.2.1 pc = .ok (.aload i, 2)) (j : Nat) (hj : lv[j]? = some (i, .ref x)) (k : X F G M rf rl (pc + 2) lv (.ref x :: st) h Q) : X F G M rf rl pc lv (st) h Q := X.step (fun p e R s m args below meth c H locs a n ls Z C hv hr hS w => lv_aload C.2.1 C.2.2.1 hd (lv_at hv j (g_l_at hj)) w) k
theorem x_aload_nN {q : Fin 4} (hd : decode M.2.1 pc = .ok (.aload_n q, 1)) (j : Nat) (hj : lv[j]? = some ((q : Nat), .null)) (k : X F G M rf rl (pc + 1) lv (.null :: st) h Q) : X F G M rf rl pc lv (st) h Q := X.step (fun p e R s m args below meth c H locs a n ls Z C hv hr hS w => lv_aload_nN C.2.1 C.2.2.1 hd rfl (lv_at hv j (g_l_at hj)) w) k
theorem x_aloadN {i : Nat} (hd : decode M.2.1 pc = .ok (.aload i, 2)) (j : Nat) (hj : lv[j]? = some (i, .null)) (k : X F G M rf rl (pc + 2) lv (.null :: st) h Q) : X F G M rf rl pc lv (st) h Q := X.step (fun p e R s m args below meth c H locs a n ls Z C hv hr hS w => lv_aloadN C.2.1 C.2.2.1 hd (lv_at hv j (g_l_at hj)) w) k
theorem x_iadd {x y : Int32} (hd : decode M.2.1 pc = .ok (.iadd, 1)) (k : X F G M rf rl (pc + 1) lv (.int (x + y) :: st) h Q) : X F G M rf rl pc lv (.int y :: .int x :: st) h Q := X.step (fun p e R s m args below meth c H locs a n ls Z C hv hr hS w => lv_iadd C.2.1 C.2.2.1 hd w) k
theorem x_isub {x y : Int32} (hd : decode M.2.1 pc = .ok (.isub, 1)) (k : X F G M rf rl (pc + 1) lv (.int (x - y) :: st) h Q) : X F G M rf rl pc lv (.int y :: .int x :: st) h Q := X.step (fun p e R s m args below meth c H locs a n ls Z C hv hr hS w => lv_isub C.2.1 C.2.2.1 hd w) k
theorem x_imul {x y : Int32} (hd : decode M.2.1 pc = .ok (.imul, 1)) (k : X F G M rf rl (pc + 1) lv (.int (x * y) :: st) h Q) : X F G M rf rl pc lv (.int y :: .int x :: st) h Q := X.step (fun p e R s m args below meth c H locs a n ls Z C hv hr hS w => lv_imul C.2.1 C.2.2.1 hd w) k
theorem x_iand {x y : Int32} (hd : decode M.2.1 pc = .ok (.iand, 1)) (k : X F G M rf rl (pc + 1) lv (.int (x &&& y) :: st) h Q) : X F G M rf rl pc lv (.int y :: .int x :: st) h Q := X.step (fun p e R s m args below meth c H locs a n ls Z C hv hr hS w => lv_iand C.2.1 C.2.2.1 hd w) k
theorem x_ior {x y : Int32} (hd : decode M.2.1 pc = .ok (.ior, 1)) (k : X F G M rf rl (pc + 1) lv (.int (x ||| y) :: st) h Q) : X F G M rf rl pc lv (.int y :: .int x :: st) h Q := X.step (fun p e R s m args below meth c H locs a n ls Z C hv hr hS w => lv_ior C.2.1 C.2.2.1 hd w) k
theorem x_ishl {x y : Int32} (hd : decode M.2.1 pc = .ok (.ishl, 1)) (k : X F G M rf rl (pc + 1) lv (.int (x <<< (y &&& 31)) :: st) h Q) : X F G M rf rl pc lv (.int y :: .int x :: st) h Q := X.step (fun p e R s m args below meth c H locs a n ls Z C hv hr hS w => lv_ishl C.2.1 C.2.2.1 hd w) k
theorem x_ishr {x y : Int32} (hd : decode M.2.1 pc = .ok (.ishr, 1)) (k : X F G M rf rl (pc + 1) lv (.int (x >>> (y &&& 31)) :: st) h Q) : X F G M rf rl pc lv (.int y :: .int x :: st) h Q := X.step (fun p e R s m args below meth c H locs a n ls Z C hv hr hS w => lv_ishr C.2.1 C.2.2.1 hd w) k
theorem x_idiv {x y : Int32} (hd : decode M.2.1 pc = .ok (.idiv, 1)) (hn : ¬ y = 0) (k : X F G M rf rl (pc + 1) lv (.int (x / y) :: st) h Q) : X F G M rf rl pc lv (.int y :: .int x :: st) h Q := X.step (fun p e R s m args below meth c H locs a n ls Z C hv hr hS w => lv_idiv C.2.1 C.2.2.1 hd hn w) k
theorem x_irem {x y : Int32} (hd : decode M.2.1 pc = .ok (.irem, 1)) (hn : ¬ y = 0) (k : X F G M rf rl (pc + 1) lv (.int (x - x / y * y) :: st) h Q) : X F G M rf rl pc lv (.int y :: .int x :: st) h Q := X.step (fun p e R s m args below meth c H locs a n ls Z C hv hr hS w => lv_irem C.2.1 C.2.2.1 hd hn w) k
theorem x_ladd {x y : Int64} (hd : decode M.2.1 pc = .ok (.ladd, 1)) (k : X F G M rf rl (pc + 1) lv (.long (x + y) :: st) h Q) : X F G M rf rl pc lv (.long y :: .long x :: st) h Q := X.step (fun p e R s m args below meth c H locs a n ls Z C hv hr hS w => lv_ladd C.2.1 C.2.2.1 hd w) k
theorem x_lsub {x y : Int64} (hd : decode M.2.1 pc = .ok (.lsub, 1)) (k : X F G M rf rl (pc + 1) lv (.long (x - y) :: st) h Q) : X F G M rf rl pc lv (.long y :: .long x :: st) h Q := X.step (fun p e R s m args below meth c H locs a n ls Z C hv hr hS w => lv_lsub C.2.1 C.2.2.1 hd w) k
theorem x_lmul {x y : Int64} (hd : decode M.2.1 pc = .ok (.lmul, 1)) (k : X F G M rf rl (pc + 1) lv (.long (x * y) :: st) h Q) : X F G M rf rl pc lv (.long y :: .long x :: st) h Q := X.step (fun p e R s m args below meth c H locs a n ls Z C hv hr hS w => lv_lmul C.2.1 C.2.2.1 hd w) k
theorem x_ldiv {x y : Int64} (hd : decode M.2.1 pc = .ok (.ldiv, 1)) (hn : ¬ y = 0) (k : X F G M rf rl (pc + 1) lv (.long (x / y) :: st) h Q) : X F G M rf rl pc lv (.long y :: .long x :: st) h Q := X.step (fun p e R s m args below meth c H locs a n ls Z C hv hr hS w => lv_ldiv C.2.1 C.2.2.1 hd hn w) k
theorem x_iushr {x y : Int32} (hd : decode M.2.1 pc = .ok (.iushr, 1)) (k : X F G M rf rl (pc + 1) lv (.int (x.toUInt32 >>> (y.toUInt32 &&& Int32.toUInt32 31)).toInt32 :: st) h Q) : X F G M rf rl pc lv (.int y :: .int x :: st) h Q := X.step (fun p e R s m args below meth c H locs a n ls Z C hv hr hS w => lv_iushr C.2.1 C.2.2.1 hd rfl w) k
theorem x_i2l {x : Int32} (hd : decode M.2.1 pc = .ok (.i2l, 1)) (k : X F G M rf rl (pc + 1) lv (.long x.toInt64 :: st) h Q) : X F G M rf rl pc lv (.int x :: st) h Q := X.step (fun p e R s m args below meth c H locs a n ls Z C hv hr hS w => lv_i2l C.2.1 C.2.2.1 hd rfl w) k
theorem x_l2i {x : Int64} (hd : decode M.2.1 pc = .ok (.l2i, 1)) (k : X F G M rf rl (pc + 1) lv (.int x.toInt32 :: st) h Q) : X F G M rf rl pc lv (.long x :: st) h Q := X.step (fun p e R s m args below meth c H locs a n ls Z C hv hr hS w => lv_l2i C.2.1 C.2.2.1 hd rfl w) k
theorem x_i2b {x : Int32} (hd : decode M.2.1 pc = .ok (.i2b, 1)) (k : X F G M rf rl (pc + 1) lv (.int x.toInt8.toInt32 :: st) h Q) : X F G M rf rl pc lv (.int x :: st) h Q := X.step (fun p e R s m args below meth c H locs a n ls Z C hv hr hS w => lv_i2b C.2.1 C.2.2.1 hd rfl w) k
theorem x_lcmp {x y : Int64} (hd : decode M.2.1 pc = .ok (.lcmp, 1)) (k : X F G M rf rl (pc + 1) lv (.int (lg_cmp x y) :: st) h Q) : X F G M rf rl pc lv (.long y :: .long x :: st) h Q := X.step (fun p e R s m args below meth c H locs a n ls Z C hv hr hS w => W.lcmp C.2.1 C.2.2.1 hd w) k
theorem x_dup {v : Value} (hd : decode M.2.1 pc = .ok (.dup, 1)) (hc : v.category = 1) (k : X F G M rf rl (pc + 1) lv (v :: v :: st) h Q) : X F G M rf rl pc lv (v :: st) h Q := X.step (fun p e R s m args below meth c H locs a n ls Z C hv hr hS w => lv_dup C.2.1 C.2.2.1 hd ((g_v_cat G _).trans hc) w) k
theorem x_pop {v : Value} (hd : decode M.2.1 pc = .ok (.pop, 1)) (hc : v.category = 1) (k : X F G M rf rl (pc + 1) lv (st) h Q) : X F G M rf rl pc lv (v :: st) h Q := X.step (fun p e R s m args below meth c H locs a n ls Z C hv hr hS w => lv_pop C.2.1 C.2.2.1 hd ((g_v_cat G _).trans hc) w) k
theorem x_dup2 {v u : Value} (hd : decode M.2.1 pc = .ok (.dup2, 1)) (hc : v.category = 1) (hc2 : u.category = 1) (k : X F G M rf rl (pc + 1) lv (v :: u :: v :: u :: st) h Q) : X F G M rf rl pc lv (v :: u :: st) h Q := X.step (fun p e R s m args below meth c H locs a n ls Z C hv hr hS w => lv_dup2_11 C.2.1 C.2.2.1 hd ((g_v_cat G _).trans hc) ((g_v_cat G _).trans hc2) w) k
theorem x_null  (hd : decode M.2.1 pc = .ok (.aconst_null, 1)) (k : X F G M rf rl (pc + 1) lv (.null :: st) h Q) : X F G M rf rl pc lv (st) h Q := X.step (fun p e R s m args below meth c H locs a n ls Z C hv hr hS w => lv_null C.2.1 C.2.2.1 hd w) k
theorem x_ldc {n : Nat} {v : Int32} (hd : decode M.2.1 pc = .ok (.ldc n, 2)) (hw : Cond.constant M.1.cls n v ∈ lw_tbl) (k : X F G M rf rl (pc + 2) lv (.int v :: st) h Q) : X F G M rf rl pc lv (st) h Q := X.step (fun p e R s m args below meth c H locs a n ls Z C hv hr hS w => lv_ldc C.2.1 C.2.2.1 C.2.2.2.2.2.1 (g_word C.1 C.2.2.2.2.2.2.2.2 hw rfl) hd w) k
theorem x_ldcw {n : Nat} {v : Int32} (hd : decode M.2.1 pc = .ok (.ldc_w n, 3)) (hw : Cond.constant M.1.cls n v ∈ lw_tbl) (k : X F G M rf rl (pc + 3) lv (.int v :: st) h Q) : X F G M rf rl pc lv (st) h Q := X.step (fun p e R s m args below meth c H locs a n ls Z C hv hr hS w => lv_ldcw C.2.1 C.2.2.1 C.2.2.2.2.2.1 (g_word C.1 C.2.2.2.2.2.2.2.2 hw rfl) hd w) k
theorem x_ldc2 {n : Nat} {v : Int64} (hd : decode M.2.1 pc = .ok (.ldc2_w n, 3)) (hw : Cond.constantLong M.1.cls n v ∈ lw_tbl) (k : X F G M rf rl (pc + 3) lv (.long v :: st) h Q) : X F G M rf rl pc lv (st) h Q := X.step (fun p e R s m args below meth c H locs a n ls Z C hv hr hS w => lv_ldc2 C.2.1 C.2.2.1 C.2.2.2.2.2.1 (g_word C.1 C.2.2.2.2.2.2.2.2 hw rfl) hd w) k
theorem x_goto  {off : Int} {tgt : Nat} (hd : decode M.2.1 pc = .ok (.goto off, 3)) (ht : (pc : Int) + off = (tgt : Int)) (k : X F G M rf rl tgt lv st h Q) : X F G M rf rl pc lv (st) h Q := X.step (fun p e R s m args below meth c H locs a n ls Z C hv hr hS w => lv_goto C.2.1 C.2.2.1 hd ht w) k
theorem x_ifnullN  {off : Int} {tgt : Nat} (hd : decode M.2.1 pc = .ok (.ifnull off, 3)) (ht : (pc : Int) + off = (tgt : Int)) (k : X F G M rf rl tgt lv st h Q) : X F G M rf rl pc lv (.null :: st) h Q := X.step (fun p e R s m args below meth c H locs a n ls Z C hv hr hS w => lv_ifnullN C.2.1 C.2.2.1 hd ht w) k
theorem x_ifnonnull {x : Nat} {off : Int} {tgt : Nat} (hd : decode M.2.1 pc = .ok (.ifnonnull off, 3)) (ht : (pc : Int) + off = (tgt : Int)) (k : X F G M rf rl tgt lv st h Q) : X F G M rf rl pc lv (.ref x :: st) h Q := X.step (fun p e R s m args below meth c H locs a n ls Z C hv hr hS w => lv_ifnonnull C.2.1 C.2.2.1 hd ht w) k
theorem x_ifnull {x : Nat} {off : Int} (hd : decode M.2.1 pc = .ok (.ifnull off, 3)) (k : X F G M rf rl (pc + 3) lv st h Q) : X F G M rf rl pc lv (.ref x :: st) h Q := X.step (fun p e R s m args below meth c H locs a n ls Z C hv hr hS w => lv_ifnull C.2.1 C.2.2.1 hd w) k
theorem x_ifnonnullN {off : Int} (hd : decode M.2.1 pc = .ok (.ifnonnull off, 3)) (k : X F G M rf rl (pc + 3) lv st h Q) : X F G M rf rl pc lv (.null :: st) h Q := X.step (fun p e R s m args below meth c H locs a n ls Z C hv hr hS w => lv_ifnonnullN C.2.1 C.2.2.1 hd w) k
theorem x_if_eq {x : Int32} {off : Int} {tgt : Nat} (hd : decode M.2.1 pc = .ok (.ifCond .eq off, 3)) (ht : (pc : Int) + off = (tgt : Int)) (kt : x = 0 → X F G M rf rl tgt lv st h Q) (kf : ¬ (x = 0) → X F G M rf rl (pc + 3) lv st h Q) : X F G M rf rl pc lv (.int x :: st) h Q := by
  by_cases hP : x = 0
  · exact X.step (fun p e R s m args below meth c H locs a n ls Z C hv hr hS w => lv_if_eq C.2.1 C.2.2.1 hd ht (fun _ => w) (fun q => absurd hP q)) (kt hP)
  · exact X.step (fun p e R s m args below meth c H locs a n ls Z C hv hr hS w => lv_if_eq C.2.1 C.2.2.1 hd ht (fun q => absurd q hP) (fun _ => w)) (kf hP)
theorem x_icmp_eq {x y : Int32} {off : Int} {tgt : Nat} (hd : decode M.2.1 pc = .ok (.if_icmp .eq off, 3)) (ht : (pc : Int) + off = (tgt : Int)) (kt : x = y → X F G M rf rl tgt lv st h Q) (kf : ¬ (x = y) → X F G M rf rl (pc + 3) lv st h Q) : X F G M rf rl pc lv (.int y :: .int x :: st) h Q := by
  by_cases hP : x = y
  · exact X.step (fun p e R s m args below meth c H locs a n ls Z C hv hr hS w => lv_icmp_eq C.2.1 C.2.2.1 hd ht (fun _ => w) (fun q => absurd hP q)) (kt hP)
  · exact X.step (fun p e R s m args below meth c H locs a n ls Z C hv hr hS w => lv_icmp_eq C.2.1 C.2.2.1 hd ht (fun q => absurd q hP) (fun _ => w)) (kf hP)
theorem x_if_ne {x : Int32} {off : Int} {tgt : Nat} (hd : decode M.2.1 pc = .ok (.ifCond .ne off, 3)) (ht : (pc : Int) + off = (tgt : Int)) (kt : ¬ x = 0 → X F G M rf rl tgt lv st h Q) (kf : x = 0 → X F G M rf rl (pc + 3) lv st h Q) : X F G M rf rl pc lv (.int x :: st) h Q := by
  by_cases hP : x = 0
  · exact X.step (fun p e R s m args below meth c H locs a n ls Z C hv hr hS w => lv_if_ne C.2.1 C.2.2.1 hd ht (fun q => absurd hP q) (fun _ => w)) (kf hP)
  · exact X.step (fun p e R s m args below meth c H locs a n ls Z C hv hr hS w => lv_if_ne C.2.1 C.2.2.1 hd ht (fun _ => w) (fun q => absurd q hP)) (kt hP)
theorem x_icmp_ne {x y : Int32} {off : Int} {tgt : Nat} (hd : decode M.2.1 pc = .ok (.if_icmp .ne off, 3)) (ht : (pc : Int) + off = (tgt : Int)) (kt : ¬ x = y → X F G M rf rl tgt lv st h Q) (kf : x = y → X F G M rf rl (pc + 3) lv st h Q) : X F G M rf rl pc lv (.int y :: .int x :: st) h Q := by
  by_cases hP : x = y
  · exact X.step (fun p e R s m args below meth c H locs a n ls Z C hv hr hS w => lv_icmp_ne C.2.1 C.2.2.1 hd ht (fun q => absurd hP q) (fun _ => w)) (kf hP)
  · exact X.step (fun p e R s m args below meth c H locs a n ls Z C hv hr hS w => lv_icmp_ne C.2.1 C.2.2.1 hd ht (fun _ => w) (fun q => absurd q hP)) (kt hP)
theorem x_if_lt {x : Int32} {off : Int} {tgt : Nat} (hd : decode M.2.1 pc = .ok (.ifCond .lt off, 3)) (ht : (pc : Int) + off = (tgt : Int)) (kt : x < 0 → X F G M rf rl tgt lv st h Q) (kf : ¬ (x < 0) → X F G M rf rl (pc + 3) lv st h Q) : X F G M rf rl pc lv (.int x :: st) h Q := by
  by_cases hP : x < 0
  · exact X.step (fun p e R s m args below meth c H locs a n ls Z C hv hr hS w => lv_if_lt C.2.1 C.2.2.1 hd ht (fun _ => w) (fun q => absurd hP q)) (kt hP)
  · exact X.step (fun p e R s m args below meth c H locs a n ls Z C hv hr hS w => lv_if_lt C.2.1 C.2.2.1 hd ht (fun q => absurd q hP) (fun _ => w)) (kf hP)
theorem x_icmp_lt {x y : Int32} {off : Int} {tgt : Nat} (hd : decode M.2.1 pc = .ok (.if_icmp .lt off, 3)) (ht : (pc : Int) + off = (tgt : Int)) (kt : x < y → X F G M rf rl tgt lv st h Q) (kf : ¬ (x < y) → X F G M rf rl (pc + 3) lv st h Q) : X F G M rf rl pc lv (.int y :: .int x :: st) h Q := by
  by_cases hP : x < y
  · exact X.step (fun p e R s m args below meth c H locs a n ls Z C hv hr hS w => lv_icmp_lt C.2.1 C.2.2.1 hd ht (fun _ => w) (fun q => absurd hP q)) (kt hP)
  · exact X.step (fun p e R s m args below meth c H locs a n ls Z C hv hr hS w => lv_icmp_lt C.2.1 C.2.2.1 hd ht (fun q => absurd q hP) (fun _ => w)) (kf hP)
theorem x_if_ge {x : Int32} {off : Int} {tgt : Nat} (hd : decode M.2.1 pc = .ok (.ifCond .ge off, 3)) (ht : (pc : Int) + off = (tgt : Int)) (kt : 0 ≤ x → X F G M rf rl tgt lv st h Q) (kf : ¬ (0 ≤ x) → X F G M rf rl (pc + 3) lv st h Q) : X F G M rf rl pc lv (.int x :: st) h Q := by
  by_cases hP : 0 ≤ x
  · exact X.step (fun p e R s m args below meth c H locs a n ls Z C hv hr hS w => lv_if_ge C.2.1 C.2.2.1 hd ht (fun _ => w) (fun q => absurd hP q)) (kt hP)
  · exact X.step (fun p e R s m args below meth c H locs a n ls Z C hv hr hS w => lv_if_ge C.2.1 C.2.2.1 hd ht (fun q => absurd q hP) (fun _ => w)) (kf hP)
theorem x_icmp_ge {x y : Int32} {off : Int} {tgt : Nat} (hd : decode M.2.1 pc = .ok (.if_icmp .ge off, 3)) (ht : (pc : Int) + off = (tgt : Int)) (kt : y ≤ x → X F G M rf rl tgt lv st h Q) (kf : ¬ (y ≤ x) → X F G M rf rl (pc + 3) lv st h Q) : X F G M rf rl pc lv (.int y :: .int x :: st) h Q := by
  by_cases hP : y ≤ x
  · exact X.step (fun p e R s m args below meth c H locs a n ls Z C hv hr hS w => lv_icmp_ge C.2.1 C.2.2.1 hd ht (fun _ => w) (fun q => absurd hP q)) (kt hP)
  · exact X.step (fun p e R s m args below meth c H locs a n ls Z C hv hr hS w => lv_icmp_ge C.2.1 C.2.2.1 hd ht (fun q => absurd q hP) (fun _ => w)) (kf hP)
theorem x_if_gt {x : Int32} {off : Int} {tgt : Nat} (hd : decode M.2.1 pc = .ok (.ifCond .gt off, 3)) (ht : (pc : Int) + off = (tgt : Int)) (kt : 0 < x → X F G M rf rl tgt lv st h Q) (kf : ¬ (0 < x) → X F G M rf rl (pc + 3) lv st h Q) : X F G M rf rl pc lv (.int x :: st) h Q := by
  by_cases hP : 0 < x
  · exact X.step (fun p e R s m args below meth c H locs a n ls Z C hv hr hS w => lv_if_gt C.2.1 C.2.2.1 hd ht (fun _ => w) (fun q => absurd hP q)) (kt hP)
  · exact X.step (fun p e R s m args below meth c H locs a n ls Z C hv hr hS w => lv_if_gt C.2.1 C.2.2.1 hd ht (fun q => absurd q hP) (fun _ => w)) (kf hP)
theorem x_icmp_gt {x y : Int32} {off : Int} {tgt : Nat} (hd : decode M.2.1 pc = .ok (.if_icmp .gt off, 3)) (ht : (pc : Int) + off = (tgt : Int)) (kt : y < x → X F G M rf rl tgt lv st h Q) (kf : ¬ (y < x) → X F G M rf rl (pc + 3) lv st h Q) : X F G M rf rl pc lv (.int y :: .int x :: st) h Q := by
  by_cases hP : y < x
  · exact X.step (fun p e R s m args below meth c H locs a n ls Z C hv hr hS w => lv_icmp_gt C.2.1 C.2.2.1 hd ht (fun _ => w) (fun q => absurd hP q)) (kt hP)
  · exact X.step (fun p e R s m args below meth c H locs a n ls Z C hv hr hS w => lv_icmp_gt C.2.1 C.2.2.1 hd ht (fun q => absurd q hP) (fun _ => w)) (kf hP)
theorem x_if_le {x : Int32} {off : Int} {tgt : Nat} (hd : decode M.2.1 pc = .ok (.ifCond .le off, 3)) (ht : (pc : Int) + off = (tgt : Int)) (kt : x ≤ 0 → X F G M rf rl tgt lv st h Q) (kf : ¬ (x ≤ 0) → X F G M rf rl (pc + 3) lv st h Q) : X F G M rf rl pc lv (.int x :: st) h Q := by
  by_cases hP : x ≤ 0
  · exact X.step (fun p e R s m args below meth c H locs a n ls Z C hv hr hS w => lv_if_le C.2.1 C.2.2.1 hd ht (fun _ => w) (fun q => absurd hP q)) (kt hP)
  · exact X.step (fun p e R s m args below meth c H locs a n ls Z C hv hr hS w => lv_if_le C.2.1 C.2.2.1 hd ht (fun q => absurd q hP) (fun _ => w)) (kf hP)
theorem x_icmp_le {x y : Int32} {off : Int} {tgt : Nat} (hd : decode M.2.1 pc = .ok (.if_icmp .le off, 3)) (ht : (pc : Int) + off = (tgt : Int)) (kt : x ≤ y → X F G M rf rl tgt lv st h Q) (kf : ¬ (x ≤ y) → X F G M rf rl (pc + 3) lv st h Q) : X F G M rf rl pc lv (.int y :: .int x :: st) h Q := by
  by_cases hP : x ≤ y
  · exact X.step (fun p e R s m args below meth c H locs a n ls Z C hv hr hS w => lv_icmp_le C.2.1 C.2.2.1 hd ht (fun _ => w) (fun q => absurd hP q)) (kt hP)
  · exact X.step (fun p e R s m args below meth c H locs a n ls Z C hv hr hS w => lv_icmp_le C.2.1 C.2.2.1 hd ht (fun q => absurd q hP) (fun _ => w)) (kf hP)
theorem x_tableIn {dflt lo hi : Int} {offs : Array Int} {len : Nat} {x : Int32} {off : Int} {tgt : Nat} (hd : decode M.2.1 pc = .ok (.tableswitch dflt lo hi offs, len)) (h1 : ¬ x.toInt < lo) (h2 : ¬ hi < x.toInt) (ho : offs[(x.toInt - lo).toNat]? = some off) (ht : (pc : Int) + off = (tgt : Int)) (k : X F G M rf rl tgt lv st h Q) : X F G M rf rl pc lv (.int x :: st) h Q := X.step (fun p e R s m args below meth c H locs a n ls Z C hv hr hS w => lv_tableIn C.2.1 C.2.2.1 hd h1 h2 ho ht w) k
theorem x_tableOut {dflt lo hi : Int} {offs : Array Int} {len : Nat} {x : Int32} {tgt : Nat} (hd : decode M.2.1 pc = .ok (.tableswitch dflt lo hi offs, len)) (h1 : x.toInt < lo ∨ hi < x.toInt) (ht : (pc : Int) + dflt = (tgt : Int)) (k : X F G M rf rl tgt lv st h Q) : X F G M rf rl pc lv (.int x :: st) h Q := X.step (fun p e R s m args below meth c H locs a n ls Z C hv hr hS w => lv_tableOut C.2.1 C.2.2.1 hd h1 ht w) k
def l_set (lv : List (Nat × Value)) (i : Nat) (v : Value) : List (Nat × Value) := (i, v) :: lv.filter (fun q => !(q.1 == i) && !(q.1 + 1 == i && q.2.category == 2))
def l_set2 (lv : List (Nat × Value)) (i : Nat) (v : Value) : List (Nat × Value) := (i, v) :: lv.filter (fun q => !(q.1 == i) && (!(q.1 == i + 1) && !(q.1 + 1 == i && q.2.category == 2)))
theorem l_set_g (i : Nat) (v : Value) : (i, g_v G v) :: (g_l G lv).filter (fun q => !(q.1 == i) && !(q.1 + 1 == i && q.2.category == 2)) = g_l G (l_set lv i v) := by
  simp only [g_l, l_set, List.map_cons, List.filter_map]
  congr 3
  funext q
  simp only [Function.comp, g_v_cat]
theorem l_set2_g (i : Nat) (v : Value) : (i, g_v G v) :: (g_l G lv).filter (fun q => !(q.1 == i) && (!(q.1 == i + 1) && !(q.1 + 1 == i && q.2.category == 2))) = g_l G (l_set2 lv i v) := by
  simp only [g_l, l_set2, List.map_cons, List.filter_map]
  congr 3
  funext q
  simp only [Function.comp, g_v_cat]
theorem x_istore_n {q : Fin 4} {x : Int32} {lv2 : List (Nat × Value)} (hd : decode M.2.1 pc = .ok (.istore_n q, 1)) (hb : (q : Nat) < M.2.2.1) (hl : l_set lv (q : Nat) (.int x) = lv2) (k : X F G M rf rl (pc + 1) lv2 st h Q) : X F G M rf rl pc lv (.int x :: st) h Q := by
  subst hl
  exact X.stepL (fun p e R s m args below meth c H locs a n ls Z C hv w => lv_istore_n C.2.1 C.2.2.1 hd rfl hv hb (l_set_g (q : Nat) (.int x)) w) k
theorem x_istore {q : Nat} {x : Int32} {lv2 : List (Nat × Value)} (hd : decode M.2.1 pc = .ok (.istore q, 2)) (hb : q < M.2.2.1) (hl : l_set lv q (.int x) = lv2) (k : X F G M rf rl (pc + 2) lv2 st h Q) : X F G M rf rl pc lv (.int x :: st) h Q := by
  subst hl
  exact X.stepL (fun p e R s m args below meth c H locs a n ls Z C hv w => lv_istore C.2.1 C.2.2.1 hd hv hb (l_set_g q (.int x)) w) k
theorem x_lstore_n {q : Fin 4} {x : Int64} {lv2 : List (Nat × Value)} (hd : decode M.2.1 pc = .ok (.lstore_n q, 1)) (hb : (q : Nat) + 1 < M.2.2.1) (hl : l_set2 lv (q : Nat) (.long x) = lv2) (k : X F G M rf rl (pc + 1) lv2 st h Q) : X F G M rf rl pc lv (.long x :: st) h Q := by
  subst hl
  exact X.stepL (fun p e R s m args below meth c H locs a n ls Z C hv w => lv_lstore_n C.2.1 C.2.2.1 hd rfl hv hb (l_set2_g (q : Nat) (.long x)) w) k
theorem x_lstore {q : Nat} {x : Int64} {lv2 : List (Nat × Value)} (hd : decode M.2.1 pc = .ok (.lstore q, 2)) (hb : q + 1 < M.2.2.1) (hl : l_set2 lv q (.long x) = lv2) (k : X F G M rf rl (pc + 2) lv2 st h Q) : X F G M rf rl pc lv (.long x :: st) h Q := by
  subst hl
  exact X.stepL (fun p e R s m args below meth c H locs a n ls Z C hv w => lv_lstore C.2.1 C.2.2.1 hd hv hb (l_set2_g q (.long x)) w) k
theorem x_astore_n {q : Fin 4} {x : Nat} {lv2 : List (Nat × Value)} (hd : decode M.2.1 pc = .ok (.astore_n q, 1)) (hb : (q : Nat) < M.2.2.1) (hl : l_set lv (q : Nat) (.ref x) = lv2) (k : X F G M rf rl (pc + 1) lv2 st h Q) : X F G M rf rl pc lv (.ref x :: st) h Q := by
  subst hl
  exact X.stepL (fun p e R s m args below meth c H locs a n ls Z C hv w => lv_astore_n C.2.1 C.2.2.1 hd rfl hv hb (l_set_g (q : Nat) (.ref x)) w) k
theorem x_astore {q : Nat} {x : Nat} {lv2 : List (Nat × Value)} (hd : decode M.2.1 pc = .ok (.astore q, 2)) (hb : q < M.2.2.1) (hl : l_set lv q (.ref x) = lv2) (k : X F G M rf rl (pc + 2) lv2 st h Q) : X F G M rf rl pc lv (.ref x :: st) h Q := by
  subst hl
  exact X.stepL (fun p e R s m args below meth c H locs a n ls Z C hv w => lv_astore C.2.1 C.2.2.1 hd hv hb (l_set_g q (.ref x)) w) k
theorem x_astore_nN {q : Fin 4}  {lv2 : List (Nat × Value)} (hd : decode M.2.1 pc = .ok (.astore_n q, 1)) (hb : (q : Nat) < M.2.2.1) (hl : l_set lv (q : Nat) (.null) = lv2) (k : X F G M rf rl (pc + 1) lv2 st h Q) : X F G M rf rl pc lv (.null :: st) h Q := by
  subst hl
  exact X.stepL (fun p e R s m args below meth c H locs a n ls Z C hv w => lv_astore_nN C.2.1 C.2.2.1 hd rfl hv hb (l_set_g (q : Nat) (.null)) w) k
theorem x_astoreN {q : Nat}  {lv2 : List (Nat × Value)} (hd : decode M.2.1 pc = .ok (.astore q, 2)) (hb : q < M.2.2.1) (hl : l_set lv q (.null) = lv2) (k : X F G M rf rl (pc + 2) lv2 st h Q) : X F G M rf rl pc lv (.null :: st) h Q := by
  subst hl
  exact X.stepL (fun p e R s m args below meth c H locs a n ls Z C hv w => lv_astoreN C.2.1 C.2.2.1 hd hv hb (l_set_g q (.null)) w) k
theorem x_iinc {i : Nat} {n : Int} {x v : Int32} {lv2 : List (Nat × Value)} (hd : decode M.2.1 pc = .ok (.iinc i n, 3)) (j : Nat) (hj : lv[j]? = some (i, .int x)) (hv : x + Int32.ofInt n = v) (hb : i < M.2.2.1) (hl : l_set lv i (.int v) = lv2) (k : X F G M rf rl (pc + 3) lv2 st h Q) : X F G M rf rl pc lv st h Q := by
  subst hl
  exact X.stepL (fun p e R s m args below meth c H locs a n ls Z C hv9 w => lv_iinc C.2.1 C.2.2.1 hd hv9 (g_l_at hj) hv hb (l_set_g i (.int v)) w) k
end XS

section XK
variable {Ω : Type} {F : FT Ω} {G : GT} {M : MT} {rf rl pc : Nat} {lv : List (Nat × Value)} {st : List Value} {h : List PE} {Q : Ω → Prop}
theorem lv_args_g (vs : List Value) : ∀ i : Nat, lv_args i (vs.map (g_v G)) = g_l G (lv_args i vs) := by
  induction vs with
  | nil => intro i; rfl
  | cons v l ih =>
    intro i
    simp only [List.map_cons, lv_args, g_v_cat, ih, g_l]
theorem lg_sl_g (vs : List Value) : (lg_sl (vs.map (g_v G))).length = (lg_sl vs).length := by
  induction vs with
  | nil => rfl
  | cons v l ih =>
    simp only [lg_sl, List.map_cons, List.flatMap_cons, List.length_append, g_v_cat] at ih ⊢
    rw [ih]
    split <;> rfl
theorem sum_cat_g (rest : List Value) : ((rest.map (g_v G)).map fun v => v.category).sum = (rest.map fun v => v.category).sum := by
  rw [List.map_map]
  congr 2
  funext v
  exact g_v_cat G v
/-- what the callee's name and code are, in the tables -/
def YL (y : MethodName) (cc : ByteArray) (nL : Nat) (ret : Option FieldType) (n : Nat) : Prop := Cond.code y cc nL ret ∈ lw_tbl ∧ Cond.initialized y.cls ∈ lw_tbl ∧ y.cls ≠ "java/lang/invoke/MethodHandle" ∧ y.cls ≠ "java/lang/invoke/VarHandle" ∧ (parseMethodDescriptor y.desc).map (fun d => d.parameters.length) = some n ∧ plainFor y = true
abbrev mk_rm (rf rl : Nat) (h : List PE) (o : OT) : Room := { frames := rf, cells := o.2.length - h.length, slots := g_s o.2 - g_s h, locals := rl }
abbrev mk_Pc (G : GT) (av : List Value) (h : List PE) : Array Value → State → Prop := va_Pc (av.map (g_v G)) (fun U => GOK G ∧ Od G U ∧ Hr G h U.heap)
/-- a method's walk is its contract -/
theorem met_of_X {y : MethodName} {cc : ByteArray} {nL : Nat} {ret : Option FieldType} {av : List Value} {Q1 : OT → Prop} (hp : plainFor y = true) (hl : (lg_sl av).length ≤ nL) (k : X (NF G) G (y, cc, nL, ret) rf rl 0 (lv_args 0 av) [] h Q1) :
    ∃ o : OT, Q1 o ∧ h.length ≤ o.2.length ∧ g_s h ≤ g_s o.2 ∧ Met G.1 y [Cond.code y cc nL ret] (mk_rm rf rl h o) (mk_Pc G av h) (g_Q G o) (o.2.length - h.length) (g_s o.2 - g_s h) (fun q => g_B G ≤ q) := by
  obtain ⟨o, q, l1, l2, w⟩ := k
  refine ⟨o, q, l1, l2, va_MetF (cc := cc) (maxL := nL) (ret := ret) hp rfl ?_⟩
  intro p e s m args below meth c s₁ B hml hv
  obtain ⟨rfl, hG, hO, hH⟩ := hv
  have hl2 := lv_entry (av.map (g_v G)) (n := nL) (by rw [lg_sl_g]; exact hl)
  rw [lv_args_g] at hl2
  rw [lg_entry_eq]
  have w9 := w p e (mk_rm rf rl h o) s m (av.map (g_v G)).toArray below meth c s.heap [] h.length (g_s h) _ ⟨⟨hG, B.exec, B.bytes, B.returns, hml, findClass_of_methodNamed B.named, B.notSynchronized, (name_of_methodNamed B.named B.method).1, hO⟩, Nat.le_refl _, Nat.le_refl _, Nat.le_refl _, Nat.le_refl _, Nat.le_refl _, Nat.le_refl _, hH, va_S.rf, hl2⟩
  rw [Nat.sub_self, Nat.sub_self] at w9
  exact w9
theorem mk_blind {av : List Value} : FrameBlind (mk_Pc G av h) := fun _ _ _ _ q => q
theorem mk_old {s U : State} {H : Heap} {locs : List Loc} (hO : Od G s) (hS : va_S (fun q => g_B G ≤ q) s.heap H locs) (hU : U.heap = H) (hW : s.WarmedH U.vm) : Od G U :=
  ⟨State.WarmedH.trans hO.1 hW, fun q hq => by rw [hU, hS.2.1 q (Nat.lt_of_lt_of_le hq hO.2.2) (Nat.not_le.mpr hq)]; exact hO.2.1 q hq, by rw [hU]; exact Nat.le_trans hO.2.2 hS.1⟩
/-- behind a call -/
theorem X.stepC {st0 rest : List Value} {o1 : OT} {av : Array Value} (l1 : h.length ≤ o1.2.length) (l2 : g_s h ≤ g_s o1.2)
    (f : ∀ (p : Program) (e : Env) (R : Room) (s : State) (m : MethodId) (args : Array Value) (below : List Frame) (meth : Method) (c : Code) (H : Heap) (locs : List Loc) (k n : Nat) (ls : Array Slot), Cx G M p s m meth c → rf ≤ R.frames → rl ≤ R.locals → k + (o1.2.length - h.length) ≤ R.cells → n + (g_s o1.2 - g_s h) ≤ R.slots → Hr G h H → va_S (fun q => g_B G ≤ q) s.heap H locs → ls.size = M.2.2.1 →
      va_Run p G.1 e R s m args below meth c H locs k n (o1.2.length - h.length) (g_s o1.2 - g_s h) (F0 m pc ls (st0.map (g_v G))) (rest.map (g_v G)) (g_Q G o1 av) (fun q => g_B G ≤ q))
    (k : X F G M rf rl (pc + 3) lv (o1.1.toList ++ rest) o1.2 Q) : X F G M rf rl pc lv st0 h Q := by
  obtain ⟨o, q, l3, l4, w⟩ := k
  refine ⟨o, q, Nat.le_trans l1 l3, Nat.le_trans l2 l4, fun p e R s m args below meth c H locs n0 s0 ls C => ?_⟩
  obtain ⟨c1, c2, c3, c4, c5, c6, c7, c8, c9, c10⟩ := C
  intro T hT X
  obtain ⟨v, st₀, t, T', L, h0, X', hL, e1, e2, ⟨hv, hH, hF⟩, stp⟩ := f p e R s m args below meth c H locs (h.length - n0) (g_s h - s0) ls c1 c2 c3 (by omega) (by omega) c8 c9 c10.1 T hT X
  have hv9 : v = o1.1.map (g_v G) := by
    have := hv
    simpa using this
  subst hv9
  rw [h0.symm] at c9
  have hS2 : va_S (fun q => g_B G ≤ q) s.heap t.heap (locs ++ L) := ⟨Nat.le_trans c9.1 hF.1, fun q h1 h2 => (hF.2 q (Nat.lt_of_lt_of_le h1 c9.1) h2).trans (c9.2.1 q h1 h2), fun z hz => by
    rcases List.mem_append.mp hz with h | h
    · exact c9.2.2 z h
    · exact hL z h⟩
  have w9 := w p e R s m args below meth c t.heap (locs ++ L) n0 s0 ls ⟨c1, c2, c3, c4, c5, by omega, by omega, hH, hS2, c10⟩
  rw [show o1.2.length - n0 = h.length - n0 + (o1.2.length - h.length) by omega, show g_s o1.2 - s0 = g_s h - s0 + (g_s o1.2 - g_s h) by omega] at w9
  obtain ⟨t2, a1, b1⟩ := w9 T' e1 X'
  refine ⟨t2, stp t2 ?_, b1⟩
  have he : (o1.1.map (g_v G)).toList ++ rest.map (g_v G) = (o1.1.toList ++ rest).map (g_v G) := by cases o1.1 <;> simp
  rw [← he] at a1
  exact a1
def VL (own : String) (idx : Nat) (y : MethodName) (ci : Nat) : Prop := Cond.methodLink own idx y ∈ lw_tbl ∧ Cond.instanceMethod y ∈ lw_tbl ∧ Cond.selects y.cls y y ∈ lw_tbl ∧ ∃ q, vwCl[ci]? = some q ∧ q.1 = y.cls
def SL (own : String) (idx : Nat) (y : MethodName) : Prop := Cond.methodLink own idx y ∈ lw_tbl ∧ Cond.static y ∈ lw_tbl
def IL (own : String) (idx : Nat) (y : MethodName) : Prop := Cond.methodLink own idx y ∈ lw_tbl ∧ Cond.instanceMethod y ∈ lw_tbl ∧ y.name = "<init>"
def INL (own : String) (idx : Nat) (y : MethodName) : Prop := (∃ host, Cond.methodLinkNest own idx y host ∈ lw_tbl) ∧ Cond.instanceMethod y ∈ lw_tbl ∧ y.name = "<init>"
def SNL (own : String) (idx : Nat) (y : MethodName) : Prop := (∃ host, Cond.methodLinkNest own idx y host ∈ lw_tbl) ∧ Cond.static y ∈ lw_tbl
theorem mk_CB {s : State} {R : Room} {args : Array Value} {y : MethodName} {cc : ByteArray} {nL n : Nat} {ret : Option FieldType} {rf' rl' : Nat} {o1 : OT} {idx : Nat} (hG : GOK G) (hO : Od G s) (hY : YL y cc nL ret n) (hl : Cond.methodLink M.1.cls idx y ∈ lw_tbl) (hf : rf' + 1 ≤ R.frames) (hloc : 8 + (nL + 11) + rl' ≤ R.locals) :
    CallB R s args M.1.cls idx y cc nL ret [Cond.code y cc nL ret] (mk_rm rf' rl' h o1) (o1.2.length - h.length) (g_s o1.2 - g_s h) n := by
  obtain ⟨y1, y2, y3, y4, y5, -⟩ := hY
  refine ⟨rfl, rfl, hf, hloc, fun w hw a' U hW => ?_, List.mem_cons_self, g_word hG hO y1 rfl, g_word hG hO y2 rfl, ⟨y3, y4⟩, fun sig h => ?_, g_word hG hO hl rfl⟩
  · rw [List.mem_singleton.mp hw]
    exact word_at hW (good_of_word rfl) (g_word (args := args) hG hO y1 rfl)
  · rw [h] at y5
    exact (Option.some.inj y5).symm
theorem mk_CN {s : State} {R : Room} {args : Array Value} {y : MethodName} {cc : ByteArray} {nL n : Nat} {ret : Option FieldType} {rf' rl' : Nat} {o1 : OT} {idx : Nat} {host : String} (hG : GOK G) (hO : Od G s) (hY : YL y cc nL ret n) (hl : Cond.methodLinkNest M.1.cls idx y host ∈ lw_tbl) (hf : rf' + 1 ≤ R.frames) (hloc : 8 + (nL + 11) + rl' ≤ R.locals) :
    va_CN R s args M.1.cls idx y host cc nL ret [Cond.code y cc nL ret] (mk_rm rf' rl' h o1) (o1.2.length - h.length) (g_s o1.2 - g_s h) n := by
  obtain ⟨y1, y2, y3, y4, y5, -⟩ := hY
  refine ⟨⟨rfl, rfl, hf, hloc, fun w hw a' U hW => ?_, List.mem_cons_self⟩, g_word hG hO y1 rfl, g_word hG hO y2 rfl, ⟨y3, y4⟩, fun sig h => ?_, va_Nw.use rfl (va_Nw.warmM hO.1 (va_Nw.of rfl (hG.1 _ hl)))⟩
  · rw [List.mem_singleton.mp hw]
    exact word_at hW (good_of_word rfl) (g_word (args := args) hG hO y1 rfl)
  · rw [h] at y5
    exact (Option.some.inj y5).symm
theorem x_callV {idx ci a : Nat} {y : MethodName} {cc : ByteArray} {nL n : Nat} {ret : Option FieldType} {fs : List Value} {rf' rl' : Nat} {Q1 : OT → Prop} (As rest : List Value) (hd : decode M.2.1 pc = .ok (.invokevirtual idx, 3)) (hV : VL M.1.cls idx y ci) (hY : YL y cc nL ret n) (hh : h[a]? = some (cO ci fs)) (ha : 3 ≤ a) (hn : As.length = n) (hst : st = As.reverse ++ .ref a :: rest) (hcat : (rest.map fun v => v.category).sum ≤ 8) (hfit : (lg_sl (.ref a :: As)).length ≤ nL) (hf : rf' + 1 ≤ rf) (hl : 8 + (nL + 11) + rl' ≤ rl)
    (callee : X (NF G) G (y, cc, nL, ret) rf' rl' 0 (lv_args 0 (.ref a :: As)) [] h Q1) (k : ∀ (r : Option Value) (h1 : List PE), Q1 (r, h1) → X F G M rf rl (pc + 3) lv (r.toList ++ rest) h1 Q) : X F G M rf rl pc lv st h Q := by
  subst hst
  obtain ⟨⟨r1, h1⟩, q1, l1, l2, hM⟩ := met_of_X hY.2.2.2.2.2 hfit callee
  refine X.stepC (o1 := (r1, h1)) (av := ((.ref a :: As).map (g_v G)).toArray) (rest := rest) l1 l2 (fun p e R s m args below meth c H locs k9 n9 ls C hf9 hl9 hk9 hn9 hr hS hsz => ?_) (k r1 h1 q1)
  have hO := C.2.2.2.2.2.2.2.2
  obtain ⟨v1, v2, v3, q, v4, v5⟩ := hV
  exact va_runV (C := y.cls) (Ts := []) (As := As.map (g_v G)) (rest := rest.map (g_v G)) (b := g_ad G a) ⟨C.2.1, C.2.2.1, C.2.2.2.2.1, C.2.2.2.2.2.1, fun _ h => nomatch h⟩ hM ⟨mk_CB C.1 hO hY v1 (by omega) (by omega), g_word C.1 hO v2 rfl, g_word C.1 hO v3 rfl⟩
    ⟨mk_blind, v5 ▸ va_recv (g_K C.1 hO) hr.1 v4 (g_w_get hh ha), fun U hU hW => ⟨rfl, C.1, mk_old hO hS hU hW, by rw [hU]; exact hr⟩⟩ rfl (by rw [List.length_map]; exact hn) hsz (by simp [g_v]) (by show 2 * 0 + _ ≤ _; rw [sum_cat_g]; omega) hd ⟨hk9, hn9⟩
theorem x_callS {idx : Nat} {y : MethodName} {cc : ByteArray} {nL n : Nat} {ret : Option FieldType} {rf' rl' : Nat} {Q1 : OT → Prop} (As rest : List Value) (hd : decode M.2.1 pc = .ok (.invokestatic idx, 3)) (hV : SL M.1.cls idx y) (hY : YL y cc nL ret n) (hn : As.length = n) (hst : st = As.reverse ++ rest) (hcat : (rest.map fun v => v.category).sum ≤ 8) (hfit : (lg_sl As).length ≤ nL) (hf : rf' + 1 ≤ rf) (hl : 8 + (nL + 11) + rl' ≤ rl)
    (callee : X (NF G) G (y, cc, nL, ret) rf' rl' 0 (lv_args 0 As) [] h Q1) (k : ∀ (r : Option Value) (h1 : List PE), Q1 (r, h1) → X F G M rf rl (pc + 3) lv (r.toList ++ rest) h1 Q) : X F G M rf rl pc lv st h Q := by
  subst hst
  obtain ⟨⟨r1, h1⟩, q1, l1, l2, hM⟩ := met_of_X hY.2.2.2.2.2 hfit callee
  refine X.stepC (o1 := (r1, h1)) (av := (As.map (g_v G)).toArray) (rest := rest) l1 l2 (fun p e R s m args below meth c H locs k9 n9 ls C hf9 hl9 hk9 hn9 hr hS hsz => ?_) (k r1 h1 q1)
  have hO := C.2.2.2.2.2.2.2.2
  obtain ⟨v1, v2⟩ := hV
  exact va_runS (Ts := []) (As := As.map (g_v G)) (rest := rest.map (g_v G)) ⟨C.2.1, C.2.2.1, C.2.2.2.2.1, C.2.2.2.2.2.1, fun _ h => nomatch h⟩ hM ⟨mk_CB C.1 hO hY v1 (by omega) (by omega), g_word C.1 hO v2 rfl⟩
    ⟨mk_blind, fun U hU hW => ⟨rfl, C.1, mk_old hO hS hU hW, by rw [hU]; exact hr⟩⟩ rfl (by rw [List.length_map]; exact hn) hsz (by simp) (by show 2 * 0 + _ ≤ _; rw [sum_cat_g]; omega) hd ⟨hk9, hn9⟩
theorem x_callSN {idx : Nat} {y : MethodName} {cc : ByteArray} {nL n : Nat} {ret : Option FieldType} {rf' rl' : Nat} {Q1 : OT → Prop} (As rest : List Value) (hd : decode M.2.1 pc = .ok (.invokestatic idx, 3)) (hV : SNL M.1.cls idx y) (hY : YL y cc nL ret n) (hn : As.length = n) (hst : st = As.reverse ++ rest) (hcat : (rest.map fun v => v.category).sum ≤ 8) (hfit : (lg_sl As).length ≤ nL) (hf : rf' + 1 ≤ rf) (hl : 8 + (nL + 11) + rl' ≤ rl)
    (callee : X (NF G) G (y, cc, nL, ret) rf' rl' 0 (lv_args 0 As) [] h Q1) (k : ∀ (r : Option Value) (h1 : List PE), Q1 (r, h1) → X F G M rf rl (pc + 3) lv (r.toList ++ rest) h1 Q) : X F G M rf rl pc lv st h Q := by
  subst hst
  obtain ⟨⟨r1, h1⟩, q1, l1, l2, hM⟩ := met_of_X hY.2.2.2.2.2 hfit callee
  refine X.stepC (o1 := (r1, h1)) (av := (As.map (g_v G)).toArray) (rest := rest) l1 l2 (fun p e R s m args below meth c H locs k9 n9 ls C hf9 hl9 hk9 hn9 hr hS hsz => ?_) (k r1 h1 q1)
  have hO := C.2.2.2.2.2.2.2.2
  obtain ⟨⟨host, v1⟩, v2⟩ := hV
  exact va_runSN (Ts := []) (host := host) (As := As.map (g_v G)) (rest := rest.map (g_v G)) ⟨C.2.1, C.2.2.1, C.2.2.2.2.1, C.2.2.2.2.2.1, fun _ h => nomatch h⟩ hM ⟨mk_CN C.1 hO hY v1 (by omega) (by omega), g_word C.1 hO v2 rfl, trivial⟩
    ⟨mk_blind, fun U hU hW => ⟨rfl, C.1, mk_old hO hS hU hW, by rw [hU]; exact hr⟩⟩ rfl (by rw [List.length_map]; exact hn) hsz (by simp) (by show 2 * 0 + _ ≤ _; rw [sum_cat_g]; omega) hd ⟨hk9, hn9⟩
theorem x_callI {idx a : Nat} {y : MethodName} {cc : ByteArray} {nL n : Nat} {rf' rl' : Nat} {Q1 : OT → Prop} (As rest : List Value) (hd : decode M.2.1 pc = .ok (.invokespecial idx, 3)) (hV : IL M.1.cls idx y) (hY : YL y cc nL none n) (hn : As.length = n) (hst : st = As.reverse ++ .ref a :: rest) (hcat : (rest.map fun v => v.category).sum ≤ 8) (hfit : (lg_sl (.ref a :: As)).length ≤ nL) (hf : rf' + 1 ≤ rf) (hl : 8 + (nL + 11) + rl' ≤ rl)
    (callee : X (NF G) G (y, cc, nL, none) rf' rl' 0 (lv_args 0 (.ref a :: As)) [] h Q1) (k : ∀ (r : Option Value) (h1 : List PE), Q1 (r, h1) → X F G M rf rl (pc + 3) lv (r.toList ++ rest) h1 Q) : X F G M rf rl pc lv st h Q := by
  subst hst
  obtain ⟨⟨r1, h1⟩, q1, l1, l2, hM⟩ := met_of_X hY.2.2.2.2.2 hfit callee
  refine X.stepC (o1 := (r1, h1)) (av := ((.ref a :: As).map (g_v G)).toArray) (rest := rest) l1 l2 (fun p e R s m args below meth c H locs k9 n9 ls C hf9 hl9 hk9 hn9 hr hS hsz => ?_) (k r1 h1 q1)
  have hO := C.2.2.2.2.2.2.2.2
  obtain ⟨v1, v2, v3⟩ := hV
  exact va_runI (Ts := []) (As := As.map (g_v G)) (rest := rest.map (g_v G)) (b := g_ad G a) ⟨C.2.1, C.2.2.1, C.2.2.2.2.1, C.2.2.2.2.2.1, fun _ h => nomatch h⟩ hM ⟨mk_CB C.1 hO hY v1 (by omega) (by omega), v3, g_word C.1 hO v2 rfl⟩
    ⟨mk_blind, fun U hU hW => ⟨rfl, C.1, mk_old hO hS hU hW, by rw [hU]; exact hr⟩⟩ rfl (by rw [List.length_map]; exact hn) hsz (by simp [g_v]) (by show 2 * 0 + _ ≤ _; rw [sum_cat_g]; omega) hd ⟨hk9, hn9⟩
theorem x_callIN {idx a : Nat} {y : MethodName} {cc : ByteArray} {nL n : Nat} {rf' rl' : Nat} {Q1 : OT → Prop} (As rest : List Value) (hd : decode M.2.1 pc = .ok (.invokespecial idx, 3)) (hV : INL M.1.cls idx y) (hY : YL y cc nL none n) (hn : As.length = n) (hst : st = As.reverse ++ .ref a :: rest) (hcat : (rest.map fun v => v.category).sum ≤ 8) (hfit : (lg_sl (.ref a :: As)).length ≤ nL) (hf : rf' + 1 ≤ rf) (hl : 8 + (nL + 11) + rl' ≤ rl)
    (callee : X (NF G) G (y, cc, nL, none) rf' rl' 0 (lv_args 0 (.ref a :: As)) [] h Q1) (k : ∀ (r : Option Value) (h1 : List PE), Q1 (r, h1) → X F G M rf rl (pc + 3) lv (r.toList ++ rest) h1 Q) : X F G M rf rl pc lv st h Q := by
  subst hst
  obtain ⟨⟨r1, h1⟩, q1, l1, l2, hM⟩ := met_of_X hY.2.2.2.2.2 hfit callee
  refine X.stepC (o1 := (r1, h1)) (av := ((.ref a :: As).map (g_v G)).toArray) (rest := rest) l1 l2 (fun p e R s m args below meth c H locs k9 n9 ls C hf9 hl9 hk9 hn9 hr hS hsz => ?_) (k r1 h1 q1)
  have hO := C.2.2.2.2.2.2.2.2
  obtain ⟨⟨host, v1⟩, v2, v3⟩ := hV
  exact va_runIN (Ts := []) (host := host) (As := As.map (g_v G)) (rest := rest.map (g_v G)) (b := g_ad G a) ⟨C.2.1, C.2.2.1, C.2.2.2.2.1, C.2.2.2.2.2.1, fun _ h => nomatch h⟩ hM ⟨mk_CN C.1 hO hY v1 (by omega) (by omega), v3, g_word C.1 hO v2 rfl⟩
    ⟨mk_blind, fun U hU hW => ⟨rfl, C.1, mk_old hO hS hU hW, by rw [hU]; exact hr⟩⟩ rfl (by rw [List.length_map]; exact hn) hsz (by simp [g_v]) (by show 2 * 0 + _ ≤ _; rw [sum_cat_g]; omega) hd ⟨hk9, hn9⟩
end XK

section XN
variable {Ω : Type} {F : FT Ω} {G : GT} {M : MT} {rf rl pc : Nat} {lv : List (Nat × Value)} {st : List Value} {h : List PE} {Q : Ω → Prop}
/-- a class that the code makes, by the pool's number -/
def NL (own : String) (idx ci N : Nat) (fs : List Value) : Prop := ∃ (C : String) (T : u_T) (ty0 : Nat → FieldType), vwCl[ci]? = some (C, T, N) ∧ (∀ w ∈ u_ws C T N, w ∈ lw_tbl) ∧ (∀ k, k < N → parseFieldDescriptor (T k).2.2.1 = some (ty0 k)) ∧ Cond.classLink own idx C ∈ lw_tbl ∧ Cond.instantiable C N ∈ lw_tbl ∧ Cond.initialized C ∈ lw_tbl ∧ fs.length = N ∧ (∀ j, j < N → defaultValue (ty0 j) = vp_V fs j) ∧ fs.all (fun v => match v with | .ref _ => false | _ => true) = true
theorem g_v_plain {fs : List Value} (h : fs.all (fun v => match v with | .ref _ => false | _ => true) = true) : fs.map (g_v G) = fs := by
  induction fs with
  | nil => rfl
  | cons v l ih =>
    rw [List.all_cons, Bool.and_eq_true] at h
    rw [List.map_cons, ih h.2]
    cases v <;> first | rfl | (exact absurd h.1 Bool.false_ne_true)
theorem Hr.push {H H1 : Heap} {c : PE} (hr : Hr G h H) (hz : H1.size = H.size + 1) (o1 : ∀ q, q < H.size → H1[q]? = H[q]?) (he : va_at G.2.1 vwCl (g_ad G h.length, g_c G c) H1) : Hr G (h ++ [c]) H1 := by
  refine ⟨?_, by rw [hz, List.length_append]; have := hr.2.1; simp; omega, by rw [List.length_append]; have := hr.2.2.1; omega, by rw [List.getElem?_append_left (by have := hr.2.2.1; omega)]; exact hr.2.2.2⟩
  rw [← g_w_push hr.2.2.1]
  refine (hr.1.kept (fun k x hx => o1 x.1 ((hr.1 k x hx).lt))).app (fun k x hx => ?_)
  have hz : k < 1 := (List.getElem?_eq_some_iff.mp hx).1
  rw [show k = 0 by omega] at hx
  cases hx
  exact he
theorem g_size {H : Heap} (hr : Hr G h H) : g_ad G h.length = H.size := by
  rw [g_ad_ge hr.2.2.1]
  have h1 := hr.2.1
  have h2 := hr.2.2.1
  omega
/-- a new cell -/
theorem X.stepN {pc2 : Nat} {st2 : List Value} {c : PE}
    (f : ∀ (p : Program) (e : Env) (R : Room) (s : State) (m : MethodId) (args : Array Value) (below : List Frame) (meth : Method) (c9 : Code) (H : Heap) (locs : List Loc) (k n : Nat) (ls : Array Slot) (Z : State → Prop), Cx G M p s m meth c9 → Hr G h H → va_S (fun q => g_B G ≤ q) s.heap H locs → k + 1 ≤ R.cells → n + g_n c ≤ R.slots →
      (∀ (H2 : Heap), Hr G (h ++ [c]) H2 → va_S (fun q => g_B G ≤ q) s.heap H2 locs → W p G.1 e R s m args below meth c9 H2 locs (k + 1) (n + g_n c) Z (F0 m pc2 ls (st2.map (g_v G)))) → W p G.1 e R s m args below meth c9 H locs k n Z (F0 m pc ls (st.map (g_v G))))
    (k : ∀ (h2 : List PE) (a : Nat), a = h.length → h2 = h ++ [c] → X F G M rf rl pc2 lv st2 h2 Q) : X F G M rf rl pc lv st h Q := by
  obtain ⟨o, q, h1, h3, w⟩ := k _ _ rfl rfl
  have hl : (h ++ [c]).length = h.length + 1 := by simp
  have hs := g_s_push h c
  refine ⟨o, q, by omega, by omega, fun p e R s m args below meth c9 H locs n0 s0 ls C => ?_⟩
  obtain ⟨c1, c2, c3, c4, c5, c6, c7, c8, c9', c10⟩ := C
  refine f p e R s m args below meth c9 H locs _ _ ls _ c1 c8 c9' (by omega) (by omega) (fun H2 hr hS => ?_)
  have w9 := w p e R s m args below meth c9 H2 locs n0 s0 ls ⟨c1, c2, c3, c4, c5, by omega, by omega, hr, hS, c10⟩
  rw [hl, hs, show h.length + 1 - n0 = h.length - n0 + 1 by omega, show g_s h + g_n c - s0 = g_s h - s0 + g_n c by omega] at w9
  exact w9
/-- behind a making: the new cell, the old ones, the length, the slots -/
theorem at_push9 {c : PE} {P : List PE → Nat → Prop} (k : ∀ (h2 : List PE) (a : Nat), a = h.length → h2[a]? = some c → (∀ j, j < a → h2[j]? = h[j]?) → h2.length = a + 1 → g_s h2 = g_s h + g_n c → P h2 a) : ∀ (h2 : List PE) (a : Nat), a = h.length → h2 = h ++ [c] → P h2 a := by
  rintro h2 a rfl rfl
  exact k _ _ rfl (by simp) (fun j hj => List.getElem?_append_left hj) (by simp) (g_s_push h c)
theorem x_new {idx ci N : Nat} {fs : List Value} (hd : decode M.2.1 pc = .ok (.new idx, 3)) (hN : NL M.1.cls idx ci N fs) (k : ∀ (h2 : List PE) (a : Nat), a = h.length → h2[a]? = some (cO ci fs) → (∀ j, j < a → h2[j]? = h[j]?) → h2.length = a + 1 → g_s h2 = g_s h + N → X F G M rf rl (pc + 3) lv (.ref a :: st) h2 Q) : X F G M rf rl pc lv st h Q := by
  obtain ⟨C0, T, ty0, hc, hin, hty, hcl, hins, hini, hlen, hfs, hall⟩ := hN
  have hmap := g_v_plain (G := G) hall
  have hgn : g_n (cO ci fs) = N := hlen
  refine X.stepN (c := cO ci fs) (pc2 := pc + 3) (st2 := .ref h.length :: st) (fun p e R s m args below meth c H locs a' n ls Z C hr hS hk hn w => ?_) (fun h2 a ha => ?_)
  · have hO := C.2.2.2.2.2.2.2.2
    have hts : ∀ w' ∈ u_ws C0 T N, w'.before args s = true := fun w' hw' => g_word C.1 hO (hin w' hw') (u_good hw')
    have hKn := (g_K C.1 hO).1 ci _ hc
    rw [hgn] at hn
    refine W.newcK C.2.1 C.2.2.1 C.2.2.2.2.2.1 (g_word C.1 hO hcl rfl) (g_word C.1 hO hins rfl) (g_word C.1 hO hini rfl) rfl hd hk hn hKn.2.1 rfl fun H1 kC hkC e1 z1 o1 => ?_
    have w9 := w H1 (hr.push z1 o1 ⟨_, hc, ?_⟩) ⟨Nat.le_trans hS.1 (by omega), fun x h1 h2 => (o1 x (Nat.lt_of_lt_of_le h1 hS.1)).trans (hS.2.1 x h1 h2), hS.2.2⟩
    · rw [hgn, List.map_cons, show g_v G (.ref h.length) = .ref H.size from congrArg Value.ref (g_size hr)] at w9
      exact w9
    · show t_OB (g_ad G h.length) _ N _ H1 (vp_V (fs.map (g_v G)))
      rw [hmap, g_size hr]
      exact (u_born ty0 hts (fun _ h => h) hKn hkC e1 hty).to hfs
  · subst ha
    rintro rfl
    exact k _ _ rfl (by simp) (fun j hj => List.getElem?_append_left hj) (by simp) ((g_s_push h _).trans (by rw [hgn]))
theorem x_newa {t N : Nat} {atype : ArrayType} {ty : FieldType} {x : vp_A} {n : Int32} (hd : decode M.2.1 pc = .ok (.newarray atype, 2)) (hty : newarray.typeOf atype = ty) (ht : (g_ty G)[t]? = some (g_aC G t, ty)) (hp : ty = .int ∨ ty = .long ∨ ty = .byte ∨ ty = .boolean) (hw : Cond.arrayClass ty ∈ lw_tbl) (hx : ∀ cA : ClassId, vp_cell cA (g_A G x) = arrV cA N (fun _ => defaultValue ty)) (hx1 : x.1 = N) (hn : ¬ n < 0) (hN : n.toNatClampNeg = N) (hbytes : N * componentBytes ty ≤ 536870912) (k : ∀ (h2 : List PE) (a : Nat), a = h.length → h2[a]? = some (.inl (t, x)) → (∀ j, j < a → h2[j]? = h[j]?) → h2.length = a + 1 → g_s h2 = g_s h + N → X F G M rf rl (pc + 2) lv (.ref a :: st) h2 Q) : X F G M rf rl pc lv (.int n :: st) h Q := by
  subst hty
  have hgn : g_n (.inl (t, x) : PE) = N := hx1
  refine X.stepN (c := .inl (t, x)) (pc2 := pc + 2) (st2 := .ref h.length :: st) (fun p e R s m args below meth c H locs a' n9 ls Z C hr hS hk hn9 w => ?_) (fun h2 a ha => ?_)
  · have hO := C.2.2.2.2.2.2.2.2
    rw [hgn] at hn9
    refine va_newaK C.2.1 C.2.2.1 (g_word C.1 hO hw rfl) rfl hd rfl hn hN hbytes hk hn9 rfl fun H1 cA e1 z1 o1 hAr hNm => ?_
    have hcA : cA = g_aC G t := by
      have h9 := ((g_K C.1 hO).2 t _ ht).2
      have h8 : s.vm.findClass ("[" ++ (newarray.typeOf atype).toString) = some (g_aC G t) := by
        rcases hp with hp | hp | hp | hp <;> (rw [hp] at h9 ⊢; exact h9)
      exact Option.some.inj (hNm.symm.trans h8)
    have w9 := w H1 (hr.push z1 o1 ?_) ⟨Nat.le_trans hS.1 (by omega), fun x h1 h2 => (o1 x (Nat.lt_of_lt_of_le h1 hS.1)).trans (hS.2.1 x h1 h2), hS.2.2⟩
    · rw [hgn, List.map_cons, show g_v G (.ref h.length) = .ref H.size from congrArg Value.ref (g_size hr)] at w9
      exact w9
    · show H1[g_ad G h.length]? = some (vp_cell (g_aC G t) (g_A G x))
      rw [hx, g_size hr, ← hcA]
      exact e1
  · subst ha
    rintro rfl
    exact k _ _ rfl (by simp) (fun j hj => List.getElem?_append_left hj) (by simp) ((g_s_push h _).trans (by rw [hgn]))
theorem x_newq {t N idx : Nat} {C0 : String} {n : Int32} (hd : decode M.2.1 pc = .ok (.anewarray idx, 3)) (ht : (g_ty G)[t]? = some (g_aC G t, .object C0)) (hcl : Cond.classLink M.1.cls idx C0 ∈ lw_tbl) (hov : Cond.arrayOver (.object C0) ∈ lw_tbl) (hn : ¬ n < 0) (hN : n.toNatClampNeg = N) (hbytes : N * 4 ≤ 536870912) (k : ∀ (h2 : List PE) (a : Nat), a = h.length → h2[a]? = some (cR t N (fun _ => none)) → (∀ j, j < a → h2[j]? = h[j]?) → h2.length = a + 1 → g_s h2 = g_s h + N → X F G M rf rl (pc + 3) lv (.ref a :: st) h2 Q) : X F G M rf rl pc lv (.int n :: st) h Q := by
  subst hN
  have hgn : g_n (cR t n.toNatClampNeg (fun _ => none)) = n.toNatClampNeg := rfl
  refine X.stepN (c := cR t n.toNatClampNeg (fun _ => none)) (pc2 := pc + 3) (st2 := .ref h.length :: st) (fun p e R s m args below meth c H locs a' n9 ls Z C hr hS hk hn9 w => ?_) (fun h2 a ha => ?_)
  · have hO := C.2.2.2.2.2.2.2.2
    rw [hgn] at hn9
    refine W.anew C.2.1 C.2.2.1 C.2.2.2.2.2.1 (g_word C.1 hO hcl rfl) (va_AO.use (va_AO.moved hO.1.alike (va_AO.of (C.1.1 _ hov)))) rfl hd rfl hn hbytes hk hn9 fun cA kA comp f1 f2 f3 f4 => ?_
    have hcA : cA = g_aC G t := by
      obtain ⟨kA', comp', -, -, -, h9⟩ := ((g_K C.1 hO).2 t _ ht).2
      exact Option.some.inj (f1.symm.trans h9)
    generalize hH1 : H.push ({ cls := cA, slots := Array.replicate n.toNatClampNeg .null, vm := .none } : Cell) = H1
    have z1 : H1.size = H.size + 1 := by rw [← hH1, Array.size_push]
    have e1 : H1[H.size]? = some (arrV cA n.toNatClampNeg (fun _ => .null)) := by rw [← hH1, Array.getElem?_push_size, ← arrV_new]
    have o1 : ∀ q : Nat, q < H.size → H1[q]? = H[q]? := fun q hq => by rw [← hH1, Array.getElem?_push, if_neg (Nat.ne_of_lt hq)]
    have w9 := w H1 (hr.push z1 o1 ?_) ⟨Nat.le_trans hS.1 (by omega), fun x h1 h2 => (o1 x (Nat.lt_of_lt_of_le h1 hS.1)).trans (hS.2.1 x h1 h2), hS.2.2⟩
    · rw [hgn, List.map_cons, show g_v G (.ref h.length) = .ref H.size from congrArg Value.ref (g_size hr)] at w9
      exact w9
    · show H1[g_ad G h.length]? = some (vp_cell (g_aC G t) (g_A G _))
      rw [g_size hr, ← hcA]
      exact e1
  · subst ha
    rintro rfl
    exact k _ _ rfl (by simp) (fun j hj => List.getElem?_append_left hj) (by simp) ((g_s_push h _).trans (by rw [hgn]))
theorem x_objInit {idx a : Nat} (hd : decode M.2.1 pc = .ok (.invokespecial idx, 3)) (hl : Cond.methodLink M.1.cls idx Lib.objectInit ∈ lw_tbl) (hi : Cond.instanceMethod Lib.objectInit ∈ lw_tbl) (hc : Cond.code Lib.objectInit ⟨#[0xb1]⟩ 1 none ∈ lw_tbl) (h1 : 1 ≤ rf) (h2 : (st.map fun v => v.category).sum + 12 ≤ rl) (k : X F G M rf rl (pc + 3) lv st h Q) : X F G M rf rl pc lv (.ref a :: st) h Q := by
  obtain ⟨o, q, h3, h4, w⟩ := k
  refine ⟨o, q, h3, h4, fun p e R s m args below meth c H locs n0 s0 ls C => ?_⟩
  have w9 := w p e R s m args below meth c H locs n0 s0 ls C
  obtain ⟨c1, c2, c3, c4, c5, c6, c7, c8, c9, c10⟩ := C
  have hO := c1.2.2.2.2.2.2.2.2
  have hsum : ((st.map (g_v G)).map fun v => v.category).sum = (st.map fun v => v.category).sum := by
    rw [List.map_map]
    congr 2
    funext v
    exact g_v_cat G v
  refine W.objInit c1.2.1 c1.2.2.1 c1.2.2.2.2.2.1 (g_word c1.1 hO hl rfl) (g_word c1.1 hO hi rfl) (g_word c1.1 hO hc rfl) rfl (by rw [c1.2.2.2.2.1]; exact c10.1) rfl hd (Nat.le_trans h1 c2) (by show 2 * 0 + _ + 12 ≤ _; rw [hsum]; omega) ?_
  exact w9
/-! ends -/
section Ends
variable {Q : OT → Prop}
theorem x_iret {v : Int32} (hd : decode M.2.1 pc = .ok (.ireturn, 1)) (hr : M.2.2.2 = some .int) (hq : Q (some (.int v), h)) : X (NF G) G M rf rl pc lv [.int v] h Q :=
  ⟨(some (.int v), h), hq, Nat.le_refl _, Nat.le_refl _, fun p e R s m args below meth c H locs n0 s0 ls C => W.iret C.1.2.1 C.1.2.2.1 (C.1.2.2.2.1.trans hr) (fun t ht hW => ⟨rfl, by rw [ht]; exact C.2.2.2.2.2.2.2.1, C.2.2.2.2.2.2.2.2.1.F ht⟩) C.2.2.2.2.2.2.2.2.1.2.2 hd C.1.2.2.2.2.2.2.1⟩
theorem x_zret {v : Int32} {ty : FieldType} (hd : decode M.2.1 pc = .ok (.ireturn, 1)) (hr : M.2.2.2 = some ty) (hn : narrow ty (.int v) = .int v) (hq : Q (some (.int v), h)) : X (NF G) G M rf rl pc lv [.int v] h Q :=
  ⟨(some (.int v), h), hq, Nat.le_refl _, Nat.le_refl _, fun p e R s m args below meth c H locs n0 s0 ls C => W.zret C.1.2.1 C.1.2.2.1 (C.1.2.2.2.1.trans hr) hn (fun t ht hW => ⟨rfl, by rw [ht]; exact C.2.2.2.2.2.2.2.1, C.2.2.2.2.2.2.2.2.1.F ht⟩) C.2.2.2.2.2.2.2.2.1.2.2 hd C.1.2.2.2.2.2.2.1⟩
theorem x_lret {v : Int64} (hd : decode M.2.1 pc = .ok (.lreturn, 1)) (hr : M.2.2.2 = some .long) (hq : Q (some (.long v), h)) : X (NF G) G M rf rl pc lv [.long v] h Q :=
  ⟨(some (.long v), h), hq, Nat.le_refl _, Nat.le_refl _, fun p e R s m args below meth c H locs n0 s0 ls C => W.lret C.1.2.1 C.1.2.2.1 (C.1.2.2.2.1.trans hr) (fun t ht hW => ⟨rfl, by rw [ht]; exact C.2.2.2.2.2.2.2.1, C.2.2.2.2.2.2.2.2.1.F ht⟩) C.2.2.2.2.2.2.2.2.1.2.2 hd C.1.2.2.2.2.2.2.1⟩
theorem x_vret (hd : decode M.2.1 pc = .ok (.return_, 1)) (hr : M.2.2.2 = none) (hq : Q (none, h)) : X (NF G) G M rf rl pc lv [] h Q :=
  ⟨(none, h), hq, Nat.le_refl _, Nat.le_refl _, fun p e R s m args below meth c H locs n0 s0 ls C => W.vret C.1.2.1 C.1.2.2.1 (C.1.2.2.2.1.trans hr) (fun t ht hW => ⟨rfl, by rw [ht]; exact C.2.2.2.2.2.2.2.1, C.2.2.2.2.2.2.2.2.1.F ht⟩) C.2.2.2.2.2.2.2.2.1.2.2 hd C.1.2.2.2.2.2.2.1⟩
theorem x_aret {r : Option Nat} {rt : FieldType} (hd : decode M.2.1 pc = .ok (.areturn, 1)) (hr : M.2.2.2 = some rt) (hrt : (∃ n, rt = .object n) ∨ ∃ t, rt = .array t) (hq : Q (some (va_rf r), h)) : X (NF G) G M rf rl pc lv [va_rf r] h Q :=
  ⟨(some (va_rf r), h), hq, Nat.le_refl _, Nat.le_refl _, fun p e R s m args below meth c H locs n0 s0 ls C => W.aret C.1.2.1 C.1.2.2.1 (C.1.2.2.2.1.trans hr) hrt (by cases r; exact Or.inl rfl; exact Or.inr ⟨_, rfl⟩) (fun t ht hW => ⟨rfl, by rw [ht]; exact C.2.2.2.2.2.2.2.1, C.2.2.2.2.2.2.2.2.1.F ht⟩) C.2.2.2.2.2.2.2.2.1.2.2 hd C.1.2.2.2.2.2.2.1⟩
end Ends
end XN

/-! ===== a throw out of a method, caught by its caller ===== -/
/-- the invoked method's exception table -/
def hasT (tb : List (Nat × Nat × Nat × Nat)) (below : List Frame) (args : Array Value) (s : State) : Prop := ∀ (m : MethodId) (meth : Method) (c : Code), s.frames = .invoking m args :: below → s.vm.method? m = some meth → meth.code = some c → c.exceptionTable.toList = tableOf tb
/-- an end that is owed only where the invoked method has that table -/
def PF {Ω : Type} (tb : List (Nat × Nat × Nat × Nat)) (F : FT Ω) : FT Ω := (F.1, fun o below args s n0 s0 t => hasT tb below args s → F.2 o below args s n0 s0 t)
section PFW
variable {p : Program} {l : Launch} {e : Env} {R : Room} {s : State} {m : MethodId} {args : Array Value} {below : List Frame} {meth : Method} {c : Code} {H : Heap} {locs : List Loc} {cells slots : Nat} {Z : State → Prop} {g : JFrame} {tb : List (Nat × Nat × Nat × Nat)}
theorem w_pf (w : c.exceptionTable.toList = tableOf tb → W p l e R s m args below meth c H locs cells slots Z g) : W p l e R s m args below meth c H locs cells slots (fun t => hasT tb below args s → Z t) g := by
  intro T hT X
  by_cases P : hasT tb below args s
  · obtain ⟨t, a, b⟩ := w (P m meth c X.frames X.method X.code) T hT X
    exact ⟨t, a, fun _ => b⟩
  · exact ⟨_, Steps.refl _, fun h => absurd h P⟩
theorem w_unpf (ht : c.exceptionTable.toList = tableOf tb) (w : W p l e R s m args below meth c H locs cells slots (fun t => hasT tb below args s → Z t) g) : W p l e R s m args below meth c H locs cells slots Z g := by
  intro T hT X
  obtain ⟨t, a, b⟩ := w T hT X
  refine ⟨t, a, b (fun m' meth' c' h1 h2 h3 => ?_)⟩
  have e := h1.symm.trans X.frames
  simp only [List.cons.injEq, Frame.invoking.injEq, and_true] at e
  subst e
  cases Option.some.inj (X.method.symm.trans h2)
  cases Option.some.inj (X.code.symm.trans h3)
  exact ht
end PFW
/-- thrown: NoSuchElementException -/
def tX (G : GT) (o : List PE) : String → State → State → Prop := fun E st t => E = nse ∧ Hr G o t.heap ∧ va_F (fun q => g_B G ≤ q) st t
def TF (G : GT) : FT (List PE) := (fun o => o, fun o below args s n0 s0 => vx_MQ below (fun _ _ _ _ => False) (tX G o) args s (o.length - n0) (g_s o - s0) (fun q => g_B G ≤ q))
def cE : PE := .inr (13, [.null, .null, .null, .null, .null, .null])
/-- what of the law's start the throw needs -/
def GE (G : GT) : Prop := (∃ sa : Nat, vk_R "FoamArms" 242 "no such thing, or legs not as told" sa (g_s0 G)) ∧ vx_Zq Bundle.tN "UNASSIGNED_STACK" Bundle.steD (fun q => g_B G ≤ q) (g_s0 G) (g_s0 G).heap ∧ vx_Zq Bundle.tN "SUPPRESSED_SENTINEL" Bundle.listD (fun q => g_B G ≤ q) (g_s0 G) (g_s0 G).heap
section XT
variable {Ω : Type} {F : FT Ω} {G : GT} {M : MT} {rf rl pc : Nat} {lv : List (Nat × Value)} {st : List Value} {h : List PE} {Q : Ω → Prop}
theorem X.pf {tb : List (Nat × Nat × Nat × Nat)} (k : X F G M rf rl pc lv st h Q) : X (PF tb F) G M rf rl pc lv st h Q := by
  obtain ⟨o, q, h1, h2, w⟩ := k
  exact ⟨o, q, h1, h2, fun p e R s m args below meth c H locs n0 s0 ls C => w_pf (fun _ => w p e R s m args below meth c H locs n0 s0 ls C)⟩
theorem ge_U {s : State} (hE : GE G) (ho : Od G s) : vx_Zq Bundle.tN "UNASSIGNED_STACK" Bundle.steD (fun q => g_B G ≤ q) s s.heap := (vx_Zq.moved ho.1.alike hE.2.1).kept (od_kept ho)
theorem ge_N {s : State} (hE : GE G) (ho : Od G s) : vx_Zq Bundle.tN "SUPPRESSED_SENTINEL" Bundle.listD (fun q => g_B G ≤ q) s s.heap := (vx_Zq.moved ho.1.alike hE.2.2).kept (od_kept ho)
theorem ns_cast_at {s : State} {args : Array Value} (hG : GOK G) (ho : Od G s) : (Cond.castable nse nse).before args s = true := va_Nw.use rfl (va_Nw.warmC ho.1 (va_Nw.of rfl (hG.1 _ ns_cast)))
theorem ns_words {s : State} {args : Array Value} (hG : GOK G) (hE : GE G) (ho : Od G s) : ∀ w ∈ nsW, w.before args s = true := by
  intro w hw
  have hi := hG.1 w (ns_in w hw)
  rcases ns_good w hw with g | rfl | rfl | rfl | rfl | rfl | rfl
  · exact g_word hG ho (ns_in w hw) g
  · exact va_Nw.use rfl (va_Nw.warmD ho.1 (va_Nw.of rfl hi))
  · exact va_Nw.use rfl (va_Nw.warmD ho.1 (va_Nw.of rfl hi))
  · exact va_Nw.use rfl (va_Nw.warmD ho.1 (va_Nw.of rfl hi))
  · exact ns_cast_at hG ho
  · exact (ge_U hE ho).2.word
  · exact (ge_N hE ho).2.word
set_option maxHeartbeats 2000000 in
theorem x_throw (hE : GE G) : X (PF [] (TF G)) G mX11_journey 6 114 21 lv [] h (fun o => o = h ++ [cE]) := by
  have hlen : (h ++ [cE]).length = h.length + 1 := by simp
  have hsl : g_s (h ++ [cE]) = g_s h + 6 := g_s_push h cE
  refine ⟨h ++ [cE], rfl, by show h.length ≤ (h ++ [cE]).length; omega, by show g_s h ≤ g_s (h ++ [cE]); omega, fun p e R s m args below meth c H locs n0 s0 ls C => w_pf (fun ht => ?_)⟩
  show W p G.1 e R s m args below meth c H locs (h.length - n0) (g_s h - s0) (vx_MQ below (fun _ _ _ _ => False) (tX G (h ++ [cE])) args s ((h ++ [cE]).length - n0) (g_s (h ++ [cE]) - s0) (fun q => g_B G ≤ q)) (F0 m 21 ls [])
  obtain ⟨⟨hG, hx, hb, hret, hml, hown, hlk, hnm, hO⟩, c2, c3, c4, c5, c6, c7, c8, c9, c10⟩ := C
  have c4' : (h ++ [cE]).length - n0 ≤ R.cells := c4
  have c5' : g_s (h ++ [cE]) - s0 ≤ R.slots := c5
  obtain ⟨sa, hsa⟩ := hE.1
  intro T hT X
  have hl : G.1.stackTraces = false := by
    have h9 : G.1.flags = flags0 := hG.2.2.2.2.2.2
    unfold Launch.stackTraces
    rw [h9]
    decide +kernel
  have htr : e.platform.stackTraces = false := (show e.platform.stackTraces = G.1.stackTraces by rw [X.admits.platform]).trans hl
  have Y := vx_rebase X (R' := { frames := R.frames, locals := R.locals, cells := 1, slots := 6 }) (Nat.le_refl _) (Nat.le_refl _) (by show h.length - n0 + 1 ≤ R.cells; omega) (by show g_s h - s0 + 6 ≤ R.slots; omega)
  obtain ⟨s', hA⟩ : ∃ z, z = (T.setVm s.vm).setFrames (.invoking m args :: below) := ⟨_, rfl⟩
  rw [← hA] at Y
  have hvm : s'.vm = s.vm := by rw [hA]; rfl
  have hhp : s'.heap = H := by rw [hA]; exact hT
  have hW0 : s.WarmedH s'.vm := by rw [hvm]; exact State.WarmedH.refl s
  have hO' : Od G s' := mk_old hO c9 hhp hW0
  have hown' : s'.vm.findClass "FoamArms" = some m.cls := by rw [hvm]; exact hown
  have hins : (Cond.instantiable nse 6).before args s' = true := ns_words hG hE hO' _ (by simp [nsW, nsR])
  obtain ⟨vm₁, cX, kX, hfX, hkX, -, -, X₁, st1⟩ := Y.newCold hx (own := "FoamArms") (C := nse) (index := 240) (n := 6) hown' (g_word hG hO' ns_cl rfl) hins (g_word hG hO' ns_ini rfl)
    (g := F0 m 21 ls []) rfl (by rw [hb]; exact dX11_journey_21) (Nat.le_refl _) (Nat.le_refl _)
  generalize hT1 : (T.setVm vm₁).pushCell { cls := cX, slots := kX.instanceTypes.map defaultValue, vm := .none } = T1 at X₁ st1
  have hcat : (Value.ref T.heap.size).category = 1 := rfl
  have hcellA : T1.heap[T.heap.size]? = some (freshCell cX kX) := by rw [← hT1]; exact State.heap_pushCell_size _ _
  have d3' : decode c.code 24 = .ok (.dup, 1) := by rw [hb]; exact dX11_journey_24
  have d4' : decode c.code 25 = .ok (.ldc 242, 2) := by rw [hb]; exact dX11_journey_25
  have hstr' : vk_R "FoamArms" 242 "no such thing, or legs not as told" sa s' := vk_R.warm hO'.1 hsa
  have hsz : ls.size = c.maxLocals := by rw [hml]; exact c10.1
  obtain ⟨U, hsteps, hrun, hend, hW, hsame, ce, hce, hcl, hcv⟩ := ny_ctor X₁ hx htr hown' (ns_words hG hE hO') (vx_isRefq (ge_U hE hO').1) (vx_isRefq (ge_N hE hO').1) (fun x hx => nomatch hx) hfX hkX hcellA (by rw [hhp, hT]; exact Nat.le_refl _) (msg := .ref sa) rfl
    (g := { method := m, pc := 27, locals := ls, stack := .ref sa :: .ref T.heap.size :: .ref T.heap.size :: [], locked := none }) rfl hsz rfl rfl (rest := []) rfl
    (by rw [hb]; exact dX11_journey_27) (by rw [hb]; exact dX11_journey_30) (fun x hx => by rw [ht] at hx; nomatch hx) (by show 5 < R.frames; omega) (by
      show 2 * 0 + ((Value.ref T.heap.size :: []).map fun v => v.category).sum + 81 ≤ R.locals
      simp only [List.map_cons, List.sum_cons, hcat, List.map_nil, List.sum_nil]; omega) hlk
  obtain ⟨f1, f2⟩ := vx_frame hsame
  have f3 : U.heap.size ≤ s'.heap.size + (0 + 1) := hsame.2.2.1
  rw [hhp] at f1 f2 f3
  have f4 : T.heap.size < U.heap.size := (Array.getElem?_eq_some_iff.mp hce).1
  have hz : U.heap.size = H.size + 1 := by rw [hT] at f4; omega
  have hWs : s.WarmedH U.vm := State.WarmedH.trans hW0 hW
  have hcl' : s.vm.findClass nse = some ce.cls := by rw [hvm] at hcl; exact hcl
  have hall : s.sameButNew ({ U with vm := s.vm } : State) locs ((h ++ [cE]).length - n0) (g_s (h ++ [cE]) - s0) := by
    subst hA
    obtain ⟨e1, e2⟩ := hsame
    rw [State.setFrames_setFrames] at e1
    have h2 : (T.setVm s.vm).sameButNew ({ U with vm := s.vm } : State) [] (0 + 1) (0 + 6) := ⟨e1, e2⟩
    have h3 := X.same.trans h2
    rw [List.append_nil] at h3
    exact h3.mono (by omega) (by omega)
  have hHr : Hr G (h ++ [cE]) U.heap := by
    refine c8.push hz (fun q hq => f2 q hq (fun z hz => nomatch hz)) ⟨_, rfl, ce, ?_, ?_, hcv, fun k hk => absurd hk (Nat.not_lt_zero _)⟩
    · show U.heap[g_ad G h.length]? = some ce
      rw [g_size c8, ← hT]
      exact hce
    · have hK := ((g_K hG hO).1 13 _ rfl).2.1
      exact Option.some.inj (hcl'.symm.trans hK)
  have hVF : va_F (fun q => g_B G ≤ q) s U := ⟨by rw [hz]; have := c9.1; omega, fun q h1 h2 => (f2 q (Nat.lt_of_lt_of_le h1 c9.1) (fun z hz => nomatch hz)).trans (c9.2.1 q h1 h2)⟩
  refine ⟨U, ?_, .threw T.heap.size, hrun, hend, Or.inr ⟨T.heap.size, rfl, nse, ce, locs, ⟨rfl, hHr, hVF⟩, hce, hcv, hcl', hWs, hall, c9.2.2⟩⟩
  refine st1 _ ?_
  show Steps p.tables e below (T1.setTop { method := m, pc := 24, locals := ls, stack := .ref T.heap.size :: [], locked := none }) _
  jvm_step X₁.here [X₁.here.top, hx, d3', Value.category]
  exact X₁.ldcString hx (own := "FoamArms") (text := "no such thing, or legs not as told") (index := 242) (a := sa) hown' hstr'.1 hstr'.2
    (g := { method := m, pc := 25, locals := ls, stack := .ref T.heap.size :: .ref T.heap.size :: [], locked := none }) rfl d4' _ hsteps
/-- a walk that ends in a throw is a contract of that kind -/
theorem met_of_XT {y : MethodName} {cc : ByteArray} {nL : Nat} {ret : Option FieldType} {av : List Value} {Q1 : List PE → Prop} (hp : plainName y.cls = true) (hl : (lg_sl av).length ≤ nL) (k : X (PF [] (TF G)) G (y, cc, nL, ret) rf rl 0 (lv_args 0 av) [] h Q1) :
    ∃ o : List PE, Q1 o ∧ h.length ≤ o.length ∧ g_s h ≤ g_s o ∧ vx_Met G.1 y [Cond.code y cc nL ret] (mk_rm rf rl h (none, o)) (mk_Pc G av h) (fun _ _ _ _ => False) (tX G o) (o.length - h.length) (g_s o - g_s h) (fun q => g_B G ≤ q) := by
  obtain ⟨o, q, l1, l2, w⟩ := k
  refine ⟨o, q, l1, l2, vx_ofW (cc := cc) (maxL := nL) (ret := ret) hp rfl ?_⟩
  intro p e s m args below meth c s₁ B hml ht hv
  obtain ⟨rfl, hG, hO, hH⟩ := hv
  have hl2 := lv_entry (av.map (g_v G)) (n := nL) (by rw [lg_sl_g]; exact hl)
  rw [lv_args_g] at hl2
  rw [lg_entry_eq]
  have w9 := w p e (mk_rm rf rl h (none, o)) s m (av.map (g_v G)).toArray below meth c s.heap [] h.length (g_s h) _ ⟨⟨hG, B.exec, B.bytes, B.returns, hml, findClass_of_methodNamed B.named, B.notSynchronized, (name_of_methodNamed B.named B.method).1, hO⟩, Nat.le_refl _, Nat.le_refl _, Nat.le_refl _, Nat.le_refl _, Nat.le_refl _, Nat.le_refl _, hH, va_S.rf, hl2⟩
  rw [Nat.sub_self, Nat.sub_self] at w9
  refine w_unpf ?_ w9
  cases hx : c.exceptionTable.toList with
  | nil => rfl
  | cons x r => exact (ht x (by rw [hx]; exact List.mem_cons_self)).elim
/-- a call that throws, caught here; what was thrown is stored and no more looked at -/
theorem x_callVT {tb1 : Nat × Nat × Nat × Nat} {idx ci a hv : Nat} {y : MethodName} {cc : ByteArray} {nL n : Nat} {ret : Option FieldType} {fs : List Value} {rf' rl' : Nat} {Q1 : List PE → Prop} (As rest : List Value) (hd : decode M.2.1 pc = .ok (.invokevirtual idx, 3)) (hV : VL M.1.cls idx y ci) (hY : YL y cc nL ret n) (hpn : plainName y.cls = true) (hh : h[a]? = some (cO ci fs)) (ha : 3 ≤ a) (hn : As.length = n) (hst : st = As.reverse ++ .ref a :: rest) (hcat : (rest.map fun v => v.category).sum ≤ 8) (hfit : (lg_sl (.ref a :: As)).length ≤ nL) (hf : rf' + 1 ≤ rf) (hl : 8 + (nL + 11) + rl' ≤ rl)
    (callee : X (PF [] (TF G)) G (y, cc, nL, ret) rf' rl' 0 (lv_args 0 (.ref a :: As)) [] h Q1)
    (hcov : covers ⟨tb1.1, tb1.2.1, tb1.2.2.1, tb1.2.2.2⟩ pc = true) (hc0 : tb1.2.2.2 ≠ 0) (hcl : Cond.classLink M.1.cls tb1.2.2.2 nse ∈ lw_tbl) (hd2 : decode M.2.1 tb1.2.2.1 = .ok (.astore hv, 2)) (hvb : hv < M.2.2.1)
    (k : ∀ h1 : List PE, Q1 h1 → X F G M rf rl (tb1.2.2.1 + 2) [] [] h1 Q) : X (PF [tb1] F) G M rf rl pc lv st h Q := by
  subst hst
  obtain ⟨h1, q1, l1, l2, hM⟩ := met_of_XT hpn hfit callee
  obtain ⟨o, q, l3, l4, w⟩ := k h1 q1
  refine ⟨o, q, Nat.le_trans l1 l3, Nat.le_trans l2 l4, fun p e R s m args below meth c H locs n0 s0 ls C => w_pf (fun ht => ?_)⟩
  obtain ⟨c1, c2, c3, c4, c5, c6, c7, c8, c9, c10⟩ := C
  have c4' : (F.1 o).length - n0 ≤ R.cells := c4
  have c5' : g_s (F.1 o) - s0 ≤ R.slots := c5
  have hO := c1.2.2.2.2.2.2.2.2
  obtain ⟨v1, v2, v3, qq, v4, v5⟩ := hV
  have hrun := vx_runV (p := p) (e := e) (meth := meth) (below := below) (locs := locs) (cells := h.length - n0) (slots := g_s h - s0) (g := F0 m pc ls ((As.reverse ++ .ref a :: rest).map (g_v G))) (C := y.cls) (Ts := []) (As := As.map (g_v G)) (rest := rest.map (g_v G)) (b := g_ad G a) (args := args) (R := R) (H := H) ⟨c1.2.1, c1.2.2.1, c1.2.2.2.2.1, c1.2.2.2.2.2.1, fun _ h => nomatch h⟩ hM ⟨mk_CB (o1 := (none, h1)) c1.1 hO hY v1 (by omega) (by omega), g_word c1.1 hO v2 rfl, g_word c1.1 hO v3 rfl⟩
    ⟨mk_blind, v5 ▸ va_recv (g_K c1.1 hO) c8.1 v4 (g_w_get hh ha), fun U hU hW => ⟨rfl, c1.1, mk_old hO c9 hU hW, by rw [hU]; exact c8⟩⟩ rfl (by rw [List.length_map]; exact hn) c10.1 (by simp [g_v]) (by show 2 * 0 + _ ≤ _; rw [sum_cat_g]; omega) hd ⟨by omega, by omega⟩
  intro T hT X
  rcases hrun T hT X with ⟨v, st₀, t, T', L, h0, X', hL, e1, e2, hF, stp⟩ | ⟨q9, st₀, t, T', L, E, ce, h0, X', hL, e1, e2, hXC, hce, hcv, hcls, stp⟩
  · exact hF.elim
  · obtain ⟨hE, hH, hFr⟩ := hXC
    subst hE
    have c9' := c9
    rw [h0.symm] at c9'
    have hS2 : va_S (fun q => g_B G ≤ q) s.heap t.heap (locs ++ L) := ⟨Nat.le_trans c9'.1 hFr.1, fun q h1 h2 => (hFr.2 q (Nat.lt_of_lt_of_le h1 c9'.1) h2).trans (c9'.2.1 q h1 h2), fun z hz => by
      rcases List.mem_append.mp hz with h | h
      · exact c9.2.2 z h
      · exact hL z h⟩
    have hWk : vx_W p G.1 e R s m args below meth c t.heap (locs ++ L) (h.length - n0 + (h1.length - h.length)) (g_s h - s0 + (g_s h1 - g_s h)) (F.2 o below args s n0 s0) (F0 m pc ls (rest.map (g_v G))) q9 := by
      refine nc_W (own := M.1.cls) (name := nse) c1.2.2.2.2.2.1 ⟨tb1.1, tb1.2.1, tb1.2.2.1, tb1.2.2.2⟩ ht hcov hc0 (g_word c1.1 hO hcl rfl) (ns_cast_at c1.1 hO) hce hcv hcls ?_
      refine lv_astore c1.2.1 c1.2.2.1 hd2 c10 hvb rfl (fun ls' hl' => ?_)
      have w9 := w p e R s m args below meth c t.heap (locs ++ L) n0 s0 ls' ⟨c1, c2, c3, c4, c5, by omega, by omega, hH, hS2, lv_sub hl' [] rfl⟩
      rw [show h1.length - n0 = h.length - n0 + (h1.length - h.length) by omega, show g_s h1 - s0 = g_s h - s0 + (g_s h1 - g_s h) by omega] at w9
      exact w9
    obtain ⟨t2, a1, b1⟩ := hWk T' e1 X'
    exact ⟨t2, stp.trans a1, b1⟩
/-- a walk of a method with an exception table is its contract -/
theorem met_of_XW {tb : List (Nat × Nat × Nat × Nat)} {y : MethodName} {cc : ByteArray} {nL : Nat} {ret : Option FieldType} {av : List Value} {Q1 : OT → Prop} (hp : plainName y.cls = true) (hl : (lg_sl av).length ≤ nL) (k : X (PF tb (NF G)) G (y, cc, nL, ret) rf rl 0 (lv_args 0 av) [] h Q1) :
    ∃ o : OT, Q1 o ∧ h.length ≤ o.2.length ∧ g_s h ≤ g_s o.2 ∧ Met G.1 y [Cond.codeWith y cc nL ret tb] (mk_rm rf rl h o) (mk_Pc G av h) (g_Q G o) (o.2.length - h.length) (g_s o.2 - g_s h) (fun q => g_B G ≤ q) := by
  obtain ⟨o, q, l1, l2, w⟩ := k
  refine ⟨o, q, l1, l2, va_MetW (cc := cc) (maxL := nL) (ret := ret) (hh := tb) hp rfl ?_⟩
  intro p e s m args below meth c s₁ B hml hv
  have htb := vx_table (x := y) B (atoms_spec (ws := [Cond.codeWith y cc nL ret tb]) B.pre _ List.mem_cons_self)
  obtain ⟨rfl, hG, hO, hH⟩ := hv
  have hl2 := lv_entry (av.map (g_v G)) (n := nL) (by rw [lg_sl_g]; exact hl)
  rw [lv_args_g] at hl2
  rw [lg_entry_eq]
  have w9 := w p e (mk_rm rf rl h o) s m (av.map (g_v G)).toArray below meth c s.heap [] h.length (g_s h) _ ⟨⟨hG, B.exec, B.bytes, B.returns, hml, findClass_of_methodNamed B.named, B.notSynchronized, (name_of_methodNamed B.named B.method).1, hO⟩, Nat.le_refl _, Nat.le_refl _, Nat.le_refl _, Nat.le_refl _, Nat.le_refl _, Nat.le_refl _, hH, va_S.rf, hl2⟩
  rw [Nat.sub_self, Nat.sub_self] at w9
  exact w_unpf htb w9
def YW (y : MethodName) (cc : ByteArray) (nL : Nat) (ret : Option FieldType) (tb : List (Nat × Nat × Nat × Nat)) (n : Nat) : Prop := Cond.codeWith y cc nL ret tb ∈ lw_tbl ∧ Cond.initialized y.cls ∈ lw_tbl ∧ y.cls ≠ "java/lang/invoke/MethodHandle" ∧ y.cls ≠ "java/lang/invoke/VarHandle" ∧ (parseMethodDescriptor y.desc).map (fun d => d.parameters.length) = some n ∧ plainName y.cls = true
theorem x_callSW {idx : Nat} {y : MethodName} {cc : ByteArray} {nL n : Nat} {ret : Option FieldType} {tb : List (Nat × Nat × Nat × Nat)} {rf' rl' : Nat} {Q1 : OT → Prop} (As rest : List Value) (hd : decode M.2.1 pc = .ok (.invokestatic idx, 3)) (hV : SL M.1.cls idx y) (hY : YW y cc nL ret tb n) (hn : As.length = n) (hst : st = As.reverse ++ rest) (hcat : (rest.map fun v => v.category).sum ≤ 8) (hfit : (lg_sl As).length ≤ nL) (hf : rf' + 1 ≤ rf) (hl : 8 + (nL + 11) + rl' ≤ rl)
    (callee : X (PF tb (NF G)) G (y, cc, nL, ret) rf' rl' 0 (lv_args 0 As) [] h Q1) (k : ∀ (r : Option Value) (h1 : List PE), Q1 (r, h1) → X F G M rf rl (pc + 3) lv (r.toList ++ rest) h1 Q) : X F G M rf rl pc lv st h Q := by
  subst hst
  obtain ⟨y1, y2, y3, y4, y5, y6⟩ := hY
  obtain ⟨⟨r1, h1⟩, q1, l1, l2, hM⟩ := met_of_XW y6 hfit callee
  refine X.stepC (o1 := (r1, h1)) (av := (As.map (g_v G)).toArray) (rest := rest) l1 l2 (fun p e R s m args below meth c H locs k9 n9 ls C hf9 hl9 hk9 hn9 hr hS hsz => ?_) (k r1 h1 q1)
  have hO := C.2.2.2.2.2.2.2.2
  obtain ⟨v1, v2⟩ := hV
  refine vx_runSW (Ts := []) (n := n) (As := As.map (g_v G)) (rest := rest.map (g_v G)) ⟨C.2.1, C.2.2.1, C.2.2.2.2.1, C.2.2.2.2.2.1, fun _ h => nomatch h⟩ hM ⟨⟨rfl, rfl, by show rf' + 1 ≤ _; omega, by show 8 + (nL + 11) + rl' ≤ _; omega, fun w hw a' U hW => ?_, List.mem_cons_self⟩, g_word C.1 hO y1 rfl, g_word C.1 hO y2 rfl, ⟨y3, y4⟩, fun sig h => ?_, g_word C.1 hO v1 rfl, g_word C.1 hO v2 rfl⟩
    ⟨mk_blind, fun U hU hW => ⟨rfl, C.1, mk_old hO hS hU hW, by rw [hU]; exact hr⟩⟩ rfl (by rw [List.length_map]; exact hn) hsz (by simp) (by show 2 * 0 + _ ≤ _; rw [sum_cat_g]; omega) hd ⟨hk9, hn9⟩
  · rw [List.mem_singleton.mp hw]
    exact word_at hW (good_of_word rfl) (g_word (args := args) C.1 hO y1 rfl)
  · rw [h] at y5
    exact (Option.some.inj y5).symm
end XT

/-! A small machine over the kit's rows: a heap is a list of cells (place 0 the script, 1 and 2 kept free, from 3 on what was made, in order); X: from this place of this method the machine comes to an end that has Q -/
abbrev vwCl : List vw_C := [(RX0, TX0, 10), (RX1, TX1, 9), (RX2, TX2, 3), (RX3, TX3, 5), (RX4, TX4, 8), (RX5, TX5, 4), (RX6, TX6, 5), (RX7, TX7, 7), (RX8, TX8, 2), (RX9, TX9, 6), (RX10, TX10, 6), (RX11, TX11, 12), (RX12, TX12, 35), ("java/util/NoSuchElementException", TX0, 0)]
abbrev PE : Type := (Nat × vp_A) ⊕ (Nat × List Value)
/-- launch, class numbers, array classes, where new cells begin, the three old places, the law's start, its arguments, the script -/
abbrev GT : Type := Launch × va_G × (Nat → ClassId) × Nat × (Nat → Nat) × State × Array Value × Nat × (Nat → Int32)
abbrev MT : Type := MethodName × ByteArray × Nat × Option FieldType
abbrev g_B (G : GT) : Nat := G.2.2.2.1
abbrev g_aC (G : GT) : Nat → ClassId := G.2.2.1
abbrev g_s0 (G : GT) : State := G.2.2.2.2.2.1
abbrev g_ar (G : GT) : Array Value := G.2.2.2.2.2.2.1
abbrev g_L (G : GT) : Nat := G.2.2.2.2.2.2.2.1
abbrev g_xs (G : GT) : Nat → Int32 := G.2.2.2.2.2.2.2.2
abbrev g_o3 (G : GT) : Nat → Nat := G.2.2.2.2.1
def g_ad (G : GT) (k : Nat) : Nat := if k < 3 then g_o3 G k else g_B G + (k - 3)
def g_v (G : GT) (v : Value) : Value := match v with
  | .ref k => .ref (g_ad G k)
  | .int x => .int x
  | .long x => .long x
  | .float x => .float x
  | .double x => .double x
  | .null => .null
  | .retAddr k => .retAddr k
def g_A (G : GT) (x : vp_A) : vp_A := (x.1, Sum.map id (Sum.map id (Sum.map id (Sum.map id (fun f j => (f j).map (g_ad G))))) x.2)
def g_c (G : GT) (c : PE) : va_E := match c with
  | .inl a => .inl (g_aC G a.1, g_A G a.2)
  | .inr o => .inr (o.1, o.2.map (g_v G))
def g_w (G : GT) (h : List PE) : va_W := (h.drop 3).mapIdx (fun i c => (g_B G + i, g_c G c))
def g_n (c : PE) : Nat := match c with
  | .inl a => a.2.1
  | .inr o => o.2.length
def g_s (h : List PE) : Nat := (h.map g_n).sum
abbrev g_ty (G : GT) : List (ClassId × FieldType) := [(g_aC G 0, .int), (g_aC G 1, .long), (g_aC G 2, .byte), (g_aC G 3, .boolean), (g_aC G 4, .object "FoamArms$Foam"), (g_aC G 5, .object "FoamArms$Thing"), (g_aC G 6, .object "FoamArms$Box"), (g_aC G 7, .object "FoamArms$Drop"), (g_aC G 8, .object "FoamArms$Book")]
theorem g_v_cat (G : GT) (v : Value) : (g_v G v).category = v.category := by cases v <;> rfl
theorem g_ad_ge {G : GT} {a : Nat} (ha : 3 ≤ a) : g_ad G a = g_B G + (a - 3) := by
  unfold g_ad
  rw [if_neg (by omega)]
theorem g_w_len (G : GT) (h : List PE) : (g_w G h).length = h.length - 3 := by simp [g_w]
theorem g_w_at (G : GT) (h : List PE) (i : Nat) : (g_w G h)[i]? = (h[3 + i]?).map (fun c => (g_B G + i, g_c G c)) := by
  simp [g_w, List.getElem?_mapIdx, List.getElem?_drop]
theorem g_w_get {G : GT} {h : List PE} {a : Nat} {c : PE} (hh : h[a]? = some c) (ha : 3 ≤ a) : (g_w G h)[a - 3]? = some (g_ad G a, g_c G c) := by
  rw [g_w_at, show 3 + (a - 3) = a by omega, hh, g_ad_ge ha]
  rfl
theorem g_w_set {G : GT} {h : List PE} {a : Nat} (ha : 3 ≤ a) (c : PE) : (g_w G h).set (a - 3) (g_ad G a, g_c G c) = g_w G (h.set a c) := by
  apply List.ext_getElem?
  intro i
  by_cases hi : i = a - 3
  · subst hi
    by_cases hl : a < h.length
    · rw [List.getElem?_set_self (by rw [g_w_len]; omega), g_w_at, show 3 + (a - 3) = a by omega, List.getElem?_set_self hl, g_ad_ge ha]
      rfl
    · rw [List.set_eq_of_length_le (by rw [g_w_len]; omega), List.set_eq_of_length_le (by omega)]
  · rw [List.getElem?_set_ne (by omega), g_w_at, g_w_at, List.getElem?_set_ne (by omega)]
theorem g_w_push {G : GT} {h : List PE} (hl : 3 ≤ h.length) (c : PE) : g_w G h ++ [(g_ad G h.length, g_c G c)] = g_w G (h ++ [c]) := by
  apply List.ext_getElem?
  intro i
  rw [g_w_at]
  by_cases hi : i < h.length - 3
  · rw [List.getElem?_append_left (by rw [g_w_len]; exact hi), g_w_at, List.getElem?_append_left (by omega)]
  · rw [List.getElem?_append_right (by rw [g_w_len]; omega), List.getElem?_append_right (by omega), g_w_len]
    by_cases hj : i = h.length - 3
    · subst hj
      rw [Nat.sub_self, show 3 + (h.length - 3) - h.length = 0 by omega, g_ad_ge hl]
      rfl
    · rw [show i - (h.length - 3) = (i - (h.length - 3) - 1) + 1 by omega, show 3 + i - h.length = (3 + i - h.length - 1) + 1 by omega]
      simp
theorem g_w_D (G : GT) (h : List PE) : va_D (fun q => g_B G ≤ q) (g_w G h) := by
  refine ⟨fun i j p q hi hj e => ?_, fun k q hk => ?_⟩
  · rw [g_w_at] at hi hj
    obtain ⟨c1, -, rfl⟩ := Option.map_eq_some_iff.mp hi
    obtain ⟨c2, -, rfl⟩ := Option.map_eq_some_iff.mp hj
    dsimp only at e
    omega
  · rw [g_w_at] at hk
    obtain ⟨c1, -, rfl⟩ := Option.map_eq_some_iff.mp hk
    exact Nat.le_add_right _ _
theorem g_s_set {h : List PE} {a : Nat} {c c' : PE} (hh : h[a]? = some c) (hn : g_n c' = g_n c) : g_s (h.set a c') = g_s h := by
  unfold g_s
  rw [List.map_set]
  congr 1
  apply List.ext_getElem?
  intro i
  by_cases hi : i = a
  · subst hi
    have hl := (List.getElem?_eq_some_iff.mp hh).1
    rw [List.getElem?_set_self (by simpa using hl), List.getElem?_map, hh, hn]
    rfl
  · rw [List.getElem?_set_ne (fun q => hi q.symm)]
theorem g_s_push (h : List PE) (c : PE) : g_s (h ++ [c]) = g_s h + g_n c := by simp [g_s]
/-- the law's start is as the Statement has it -/
def GOK (G : GT) : Prop := (∀ w ∈ lw_tbl, w.before (g_ar G) (g_s0 G) = true) ∧ (Jvm.Cond.and given_1 narrow_1).before (g_ar G) (g_s0 G) = true ∧ va_K G.2.1 vwCl (g_ty G) (g_s0 G) ∧ va_X (g_o3 G 0) (g_L G) (g_xs G) (g_s0 G) (g_s0 G).heap ∧ g_B G = (g_s0 G).heap.size ∧ (∀ k, k < 3 → g_o3 G k < g_B G) ∧ G.1.flags = flags0
/-- the real heap holds the pure one -/
def Hr (G : GT) (h : List PE) (H : Heap) : Prop := va_P G.2.1 vwCl (g_w G h) H ∧ H.size + 3 = g_B G + h.length ∧ 3 ≤ h.length ∧ h[0]? = some (.inl (0, (g_L G, .inl (g_xs G))))
/-- since the law's start: tables warmed, old cells as they were -/
def Od (G : GT) (s : State) : Prop := (g_s0 G).WarmedH s.vm ∧ (∀ q, q < g_B G → s.heap[q]? = (g_s0 G).heap[q]?) ∧ g_B G ≤ s.heap.size
def Cx (G : GT) (M : MT) (p : Program) (s : State) (m : MethodId) (meth : Method) (c : Code) : Prop :=
  GOK G ∧ p.tables.exec = Jvm.exec ∧ c.code = M.2.1 ∧ meth.sig.returnType = M.2.2.2 ∧ c.maxLocals = M.2.2.1 ∧ s.vm.findClass M.1.cls = some m.cls ∧ meth.locks = false ∧ meth.name = M.1.name ∧ Od G s
abbrev g_l (G : GT) (lv : List (Nat × Value)) : List (Nat × Value) := lv.map (fun q => (q.1, g_v G q.2))
/-- an end: the heap behind it, and what the machine owes there -/
abbrev FT (Ω : Type) : Type := (Ω → List PE) × (Ω → List Frame → Array Value → State → Nat → Nat → State → Prop)
def XC (G : GT) (M : MT) (rf rl oN oS : Nat) (h : List PE) (lv : List (Nat × Value)) (p : Program) (R : Room) (s : State) (m : MethodId) (meth : Method) (c : Code) (H : Heap) (locs : List Loc) (n0 s0 : Nat) (ls : Array Slot) : Prop :=
  Cx G M p s m meth c ∧ rf ≤ R.frames ∧ rl ≤ R.locals ∧ oN - n0 ≤ R.cells ∧ oS - s0 ≤ R.slots ∧ n0 ≤ h.length ∧ s0 ≤ g_s h ∧ Hr G h H ∧ va_S (fun q => g_B G ≤ q) s.heap H locs ∧ lv_has ls M.2.2.1 (g_l G lv)
def X {Ω : Type} (F : FT Ω) (G : GT) (M : MT) (rf rl pc : Nat) (lv : List (Nat × Value)) (st : List Value) (h : List PE) (Q : Ω → Prop) : Prop :=
  ∃ o : Ω, Q o ∧ h.length ≤ (F.1 o).length ∧ g_s h ≤ g_s (F.1 o) ∧
    ∀ (p : Program) (e : Env) (R : Room) (s : State) (m : MethodId) (args : Array Value) (below : List Frame) (meth : Method) (c : Code) (H : Heap) (locs : List Loc) (n0 s0 : Nat) (ls : Array Slot),
      XC G M rf rl (F.1 o).length (g_s (F.1 o)) h lv p R s m meth c H locs n0 s0 ls →
      W p G.1 e R s m args below meth c H locs (h.length - n0) (g_s h - s0) (F.2 o below args s n0 s0) (F0 m pc ls (st.map (g_v G)))
/-- the usual end: the method returns -/
abbrev OT : Type := Option Value × List PE
def g_Q (G : GT) (o : OT) : Array Value → State → Outcome → State → Prop := fun _ st oc t => oc = .returned (o.1.map (g_v G)) ∧ Hr G o.2 t.heap ∧ va_F (fun q => g_B G ≤ q) st t
def NF (G : GT) : FT OT := (fun o => o.2, fun o below args s n0 s0 => MQ below (g_Q G o) args s (o.2.length - n0) (g_s o.2 - s0) (fun q => g_B G ≤ q))
section XR
variable {Ω : Type} {F : FT Ω} {G : GT} {M : MT} {rf rl pc : Nat} {lv : List (Nat × Value)} {st : List Value} {h : List PE} {Q : Ω → Prop}
/-- a word of the tables, at any state since the start -/
theorem g_word {s : State} (hG : GOK G) (ho : Od G s) {w : Cond} (hw : w ∈ lw_tbl) (hg : goodWord w = true) {args : Array Value} : w.before args s = true := word_at ho.1 (good_of_word hg) (hG.1 w hw)
theorem g_K {s : State} (hG : GOK G) (ho : Od G s) : va_K G.2.1 vwCl (g_ty G) s := va_K.moved ho.1.alike hG.2.2.1
theorem X.weaken {Q' : Ω → Prop} (k : X F G M rf rl pc lv st h Q) (hq : ∀ o, Q o → Q' o) : X F G M rf rl pc lv st h Q' := by
  obtain ⟨o, q, h1, h2, w⟩ := k
  exact ⟨o, hq o q, h1, h2, w⟩
/-- nothing but pc and stack -/
theorem X.step {pc2 : Nat} {st2 : List Value}
    (f : ∀ (p : Program) (e : Env) (R : Room) (s : State) (m : MethodId) (args : Array Value) (below : List Frame) (meth : Method) (c : Code) (H : Heap) (locs : List Loc) (k n : Nat) (ls : Array Slot) (Z : State → Prop), Cx G M p s m meth c → lv_has ls M.2.2.1 (g_l G lv) → Hr G h H → va_S (fun q => g_B G ≤ q) s.heap H locs →
      W p G.1 e R s m args below meth c H locs k n Z (F0 m pc2 ls (st2.map (g_v G))) → W p G.1 e R s m args below meth c H locs k n Z (F0 m pc ls (st.map (g_v G))))
    (k : X F G M rf rl pc2 lv st2 h Q) : X F G M rf rl pc lv st h Q := by
  obtain ⟨o, q, h1, h2, w⟩ := k
  exact ⟨o, q, h1, h2, fun p e R s m args below meth c H locs n0 s0 ls C => f p e R s m args below meth c H locs _ _ ls _ C.1 C.2.2.2.2.2.2.2.2.2 C.2.2.2.2.2.2.2.1 C.2.2.2.2.2.2.2.2.1 (w p e R s m args below meth c H locs n0 s0 ls C)⟩
/-- and the locals -/
theorem X.stepL {pc2 : Nat} {st2 : List Value} {lv2 : List (Nat × Value)}
    (f : ∀ (p : Program) (e : Env) (R : Room) (s : State) (m : MethodId) (args : Array Value) (below : List Frame) (meth : Method) (c : Code) (H : Heap) (locs : List Loc) (k n : Nat) (ls : Array Slot) (Z : State → Prop), Cx G M p s m meth c → lv_has ls M.2.2.1 (g_l G lv) →
      (∀ ls2 : Array Slot, lv_has ls2 M.2.2.1 (g_l G lv2) → W p G.1 e R s m args below meth c H locs k n Z (F0 m pc2 ls2 (st2.map (g_v G)))) → W p G.1 e R s m args below meth c H locs k n Z (F0 m pc ls (st.map (g_v G))))
    (k : X F G M rf rl pc2 lv2 st2 h Q) : X F G M rf rl pc lv st h Q := by
  obtain ⟨o, q, h1, h2, w⟩ := k
  refine ⟨o, q, h1, h2, fun p e R s m args below meth c H locs n0 s0 ls C => ?_⟩
  obtain ⟨c1, c2, c3, c4, c5, c6, c7, c8, c9, c10⟩ := C
  exact f p e R s m args below meth c H locs _ _ ls _ c1 c10 (fun ls2 hl2 => w p e R s m args below meth c H locs n0 s0 ls2 ⟨c1, c2, c3, c4, c5, c6, c7, c8, c9, hl2⟩)
/-- and a cell -/
theorem X.stepH {pc2 : Nat} {st2 : List Value} {h2 : List PE} (hlen : h2.length = h.length) (hsl : g_s h2 = g_s h)
    (f : ∀ (p : Program) (e : Env) (R : Room) (s : State) (m : MethodId) (args : Array Value) (below : List Frame) (meth : Method) (c : Code) (H : Heap) (locs : List Loc) (k n : Nat) (ls : Array Slot) (Z : State → Prop), Cx G M p s m meth c → Hr G h H → va_S (fun q => g_B G ≤ q) s.heap H locs →
      (∀ (H2 : Heap) (locs2 : List Loc), Hr G h2 H2 → va_S (fun q => g_B G ≤ q) s.heap H2 locs2 → W p G.1 e R s m args below meth c H2 locs2 k n Z (F0 m pc2 ls (st2.map (g_v G)))) → W p G.1 e R s m args below meth c H locs k n Z (F0 m pc ls (st.map (g_v G))))
    (k : X F G M rf rl pc2 lv st2 h2 Q) : X F G M rf rl pc lv st h Q := by
  obtain ⟨o, q, h1, h3, w⟩ := k
  refine ⟨o, q, hlen ▸ h1, hsl ▸ h3, fun p e R s m args below meth c H locs n0 s0 ls C => ?_⟩
  obtain ⟨c1, c2, c3, c4, c5, c6, c7, c8, c9, c10⟩ := C
  refine f p e R s m args below meth c H locs _ _ ls _ c1 c8 c9 (fun H2 locs2 hr hS => ?_)
  rw [← hlen, ← hsl]
  exact w p e R s m args below meth c H2 locs2 n0 s0 ls ⟨c1, c2, c3, c4, c5, by rw [hlen]; exact c6, by rw [hsl]; exact c7, hr, hS, c10⟩
end XR

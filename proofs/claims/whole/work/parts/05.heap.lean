abbrev cI (n : Nat) (f : Nat → Int32) : PE := .inl (0, (n, .inl f))
abbrev cJ (n : Nat) (f : Nat → Int64) : PE := .inl (1, (n, .inr (.inl f)))
abbrev cB (n : Nat) (f : Nat → Int32) : PE := .inl (2, (n, .inl f))
abbrev cZ (n : Nat) (f : Nat → Int32) : PE := .inl (3, (n, .inl f))
abbrev cR (t n : Nat) (f : Nat → Option Nat) : PE := .inl (t, (n, .inr (.inr (.inr (.inr f)))))
abbrev cO (ci : Nat) (fs : List Value) : PE := .inr (ci, fs)
/-- a field, by the class of the code that names it and the pool's number -/
def FL (own : String) (idx ci k : Nat) (ty : FieldType) (fin : Bool) : Prop := ∃ (C : String) (T : u_T) (N : Nat) (ty0 : Nat → FieldType), vwCl[ci]? = some (C, T, N) ∧ k < N ∧ (∀ w ∈ u_ws C T N, w ∈ lw_tbl) ∧ (∀ k, k < N → parseFieldDescriptor (T k).2.2.1 = some (ty0 k)) ∧ (∀ a, a < N → ∀ b, b < N → a ≠ b → (T a).2.1 ≠ (T b).2.1) ∧ Cond.fieldLink own idx (T k).1 (T k).2.1 (T k).2.2.1 ∈ lw_tbl ∧ parseFieldDescriptor (T k).2.2.1 = some ty ∧ (T k).2.2.2 = fin ∧ (T k).1 = C
theorem u_good {C : String} {T : u_T} {N : Nat} {w : Cond} (h : w ∈ u_ws C T N) : goodWord w = true := by
  obtain ⟨k, -, rfl⟩ := List.mem_map.mp h
  unfold u_lay
  split <;> rfl
section XH
variable {Ω : Type} {F : FT Ω} {G : GT} {M : MT} {rf rl pc : Nat} {lv : List (Nat × Value)} {st : List Value} {h : List PE} {Q : Ω → Prop}
theorem Hr.put {H H1 : Heap} {a : Nat} {c c' : PE} (hr : Hr G h H) (hh : h[a]? = some c) (ha : 3 ≤ a) (he : va_at G.2.1 vwCl (g_ad G a, g_c G c') H1) (hz : H1.size = H.size) (oq : ∀ q, q ≠ g_ad G a → H1[q]? = H[q]?) : Hr G (h.set a c') H1 :=
  ⟨by rw [← g_w_set ha]; exact hr.1.set (g_w_D G h) (g_w_get hh ha) he oq, by rw [hz, List.length_set]; exact hr.2.1, by rw [List.length_set]; exact hr.2.2.1, by rw [List.getElem?_set_ne (by omega)]; exact hr.2.2.2⟩
theorem g_ad_B {a : Nat} (ha : 3 ≤ a) : g_B G ≤ g_ad G a := by rw [g_ad_ge ha]; exact Nat.le_add_right _ _
theorem x_get {idx ci i a : Nat} {ty : FieldType} {fin : Bool} {fs : List Value} {v : Value} (hd : decode M.2.1 pc = .ok (.getfield idx, 3)) (hF : FL M.1.cls idx ci i ty fin) (hh : h[a]? = some (cO ci fs)) (ha : 3 ≤ a) (hv : fs[i]? = some v) (k : X F G M rf rl (pc + 3) lv (v :: st) h Q) : X F G M rf rl pc lv (.ref a :: st) h Q := by
  obtain ⟨C0, T, N, ty0, hc, hk, hin, -, -, hl, -⟩ := hF
  refine X.step (fun p e R s m args below meth c H locs a' n ls Z C hv9 hr hS w => ?_) k
  exact va_get (D := G.2.1) (cl := vwCl) (tys := g_ty G) (Ts := u_ws C0 T N) C.2.1 C.2.2.1 (fun w' hw' => g_word C.1 C.2.2.2.2.2.2.2.2 (hin w' hw') (u_good hw')) (fun _ h => h) C.2.2.2.2.2.1 (g_K C.1 C.2.2.2.2.2.2.2.2) hr.1 (a - 3) (g_w_get hh ha) hc i hk (g_word C.1 C.2.2.2.2.2.2.2.2 hl rfl) (fun _ h9 => h9) (by rw [List.getElem?_map, hv]; rfl) hd w
theorem x_put0 {idx ci i a : Nat} {ty : FieldType} {fin : Bool} {fs : List Value} {v : Value} (hd : decode M.2.1 pc = .ok (.putfield idx, 3)) (hF : FL M.1.cls idx ci i ty fin) (hfin : fin = false ∨ (M.1.name = "<init>" ∧ ∃ q, vwCl[ci]? = some q ∧ q.1 = M.1.cls)) (hh : h[a]? = some (cO ci fs)) (ha : 3 ≤ a) (hn : narrow ty (g_v G v) = g_v G v) (hfit : fits ty (g_v G v) = true) (hi : i < fs.length) (k : X F G M rf rl (pc + 3) lv st (h.set a (cO ci (fs.set i v))) Q) : X F G M rf rl pc lv (v :: .ref a :: st) h Q := by
  obtain ⟨C0, T, N, ty0, hc, hk, hin, hty, hnm, hl, hty2, hfn, hdc⟩ := hF
  refine X.stepH (by simp) (g_s_set hh (by simp [g_n])) (fun p e R s m args below meth c H locs a' n ls Z C hr hS w => ?_) k
  have hO := C.2.2.2.2.2.2.2.2
  have hK := g_K C.1 hO
  have hown := C.2.2.2.2.2.1
  have hts : ∀ w' ∈ u_ws C0 T N, w'.before args s = true := fun w' hw' => g_word C.1 hO (hin w' hw') (u_good hw')
  have hap := va_apart (own := M.1.cls) hts (fun _ h => h) ty0 hty hnm hK hc
  obtain ⟨r, h1, cell, q1, q2, q3, q4⟩ := hr.1 (a - 3) _ (g_w_get hh ha)
  have hr9 : r = (C0, T, N) := Option.some.inj (h1.symm.trans hc)
  subst hr9
  obtain ⟨hS9, hfc, kC, hkC, hkind⟩ := hK.1 ci _ hc
  obtain ⟨cf, kf, fi, f, hi9, hsl⟩ := hS9 i hk
  have hst := (u_facts hfc hkC (u_lays hts (fun _ h => h) hk) hi9).1
  have hlay := hts _ (u_in_lay hk)
  have hlink : (Cond.fieldLink M.1.cls idx (T i).1 (T i).2.1 (T i).2.2.1).before args s = true := g_word C.1 hO hl rfl
  have fin9 : ∀ H' : Heap, H'[g_ad G a]? = some (cell.setSlot (G.2.1.2 ci i) (g_v G v)) → H'.size = H.size → (∀ q, q ≠ g_ad G a → H'[q]? = H[q]?) → Hr G (h.set a (cO ci (fs.set i v))) H' := by
    intro H' e1 e2 e3
    refine hr.put hh ha ?_ e2 e3
    refine ⟨_, hc, ?_⟩
    show t_OB (g_ad G a) (G.2.1.1 ci) N (G.2.1.2 ci) H' (vp_V ((fs.set i v).map (g_v G)))
    rw [List.map_set]
    exact t_OB.to (V := updV (vp_V (fs.map (g_v G))) i (g_v G v)) ⟨_, e1, q2, q3, t_set q4 hap hk (g_v G v)⟩ (fun j _ => vp_updV_set (fs := fs.map (g_v G)) (by rw [List.length_map]; exact hi) (g_v G v) j)
  cases hfb : (T i).2.2.2 with
  | false =>
    unfold u_lay at hlay
    rw [if_neg (by rw [hfb]; decide)] at hlay
    have h6 := u_store hfc hkC hkind hlay hi9 hty2 hn hfit
    refine W.putK C.2.1 C.2.2.1 (f := f) ⟨hown, hlink, ⟨_, _, _, hi9⟩, hst⟩ (by rw [q2]; exact h6) q1 q3 (by rw [hsl]; exact k2_hasslot (q4 i hk)) rfl rfl hd fun H' e1 e2 e3 => ?_
    rw [hsl] at e1 ⊢
    exact w H' _ (fin9 H' e1 e2 e3) (hS.put e2 e3 (g_ad_B ha))
  | true =>
    rcases hfin with h0 | ⟨hin2, q, hq1, hq2⟩
    · exact absurd (hfb.symm.trans (hfn.trans h0)) (by decide)
    · have hCo : C0 = M.1.cls := by
        have := hq1.symm.trans hc
        have h9 := Option.some.inj this
        rw [← hq2, h9]
      unfold u_lay at hlay
      rw [if_pos hfb] at hlay
      have hcf : m.cls = cf := by
        obtain ⟨_, _, c', _, _, _, -, -, hf', -, -, -, hown2, -⟩ := Cond.laysFinal_spec hlay
        have e1 : c' = cf := by have := hi9.symm.trans hf'; simp at this; exact this.1.symm
        rw [hdc, hCo] at hown2
        rw [← e1]; exact Option.some.inj (hown.symm.trans hown2)
      have h6 := u_fits hfc hkC hkind (Or.inr hlay) hi9 hty2 hn hfit
      refine W.putFinK C.2.1 C.2.2.1 hown hlink hi9 hst hcf (C.2.2.2.2.2.2.2.1.trans hin2) (by rw [q2]; exact h6) q1 q3 (by rw [hsl]; exact k2_hasslot (q4 i hk)) rfl rfl hd fun H' e1 e2 e3 => ?_
      rw [hsl] at e1 ⊢
      exact w H' _ (fin9 H' e1 e2 e3) (hS.put e2 e3 (g_ad_B ha))
/-- behind a store: the cell, the others, the length, the slots -/
theorem at_set9 {a : Nat} {c c' : PE} (hh : h[a]? = some c) (hn : g_n c' = g_n c) {P : List PE → Prop} (k : ∀ h2 : List PE, h2[a]? = some c' → (∀ j, j ≠ a → h2[j]? = h[j]?) → h2.length = h.length → g_s h2 = g_s h → P h2) : P (h.set a c') :=
  k _ (List.getElem?_set_self (List.getElem?_eq_some_iff.mp hh).1) (fun j hj => List.getElem?_set_ne (Ne.symm hj)) (List.length_set ..) (g_s_set hh hn)
theorem x_put {idx ci i a : Nat} {ty : FieldType} {fin : Bool} {fs fs2 : List Value} {v : Value} (hd : decode M.2.1 pc = .ok (.putfield idx, 3)) (hF : FL M.1.cls idx ci i ty fin) (hfin : fin = false ∨ (M.1.name = "<init>" ∧ ∃ q, vwCl[ci]? = some q ∧ q.1 = M.1.cls)) (hh : h[a]? = some (cO ci fs)) (ha : 3 ≤ a) (hn : narrow ty (g_v G v) = g_v G v) (hfit : fits ty (g_v G v) = true) (hi : i < fs.length) (hf2 : fs.set i v = fs2) (k : ∀ h2 : List PE, h2[a]? = some (cO ci fs2) → (∀ j, j ≠ a → h2[j]? = h[j]?) → h2.length = h.length → g_s h2 = g_s h → X F G M rf rl (pc + 3) lv st h2 Q) : X F G M rf rl pc lv (v :: .ref a :: st) h Q := by
  subst hf2
  exact x_put0 hd hF hfin hh ha hn hfit hi (at_set9 hh (by simp [g_n]) k)
theorem g_arr {s : State} (hG : GOK G) (ho : Od G s) {t : Nat} {ty : FieldType} (ht : (g_ty G)[t]? = some (g_aC G t, ty)) (n : Nat) (z : Nat → Value) : s.isArrayOf (arrV (g_aC G t) n z) ty := ((g_K hG ho).2 t _ ht).1 n z
theorem x_iald {a n : Nat} {f : Nat → Int32} {i : Int32} (hd : decode M.2.1 pc = .ok (.iaload, 1)) (hh : h[a]? = some (cI n f)) (ha : 3 ≤ a) (hin : vp_in i n) (k : X F G M rf rl (pc + 1) lv (.int (f i.toNatClampNeg) :: st) h Q) : X F G M rf rl pc lv (.int i :: .ref a :: st) h Q :=
  X.step (fun p e R s m args below meth c H locs a' n ls Z C hv9 hr hS w => va_iald (D := G.2.1) (cl := vwCl) (tys := g_ty G) C.2.1 C.2.2.1 (g_K C.1 C.2.2.2.2.2.2.2.2) hr.1 (a - 3) 0 (g_w_get hh ha) rfl hin hd w) k
theorem x_bald {a n : Nat} {f : Nat → Int32} {i : Int32} (hd : decode M.2.1 pc = .ok (.baload, 1)) (hh : h[a]? = some (cB n f)) (ha : 3 ≤ a) (hin : vp_in i n) (k : X F G M rf rl (pc + 1) lv (.int (f i.toNatClampNeg) :: st) h Q) : X F G M rf rl pc lv (.int i :: .ref a :: st) h Q :=
  X.step (fun p e R s m args below meth c H locs a' n ls Z C hv9 hr hS w => va_bald (D := G.2.1) (cl := vwCl) (tys := g_ty G) C.2.1 C.2.2.1 (g_K C.1 C.2.2.2.2.2.2.2.2) hr.1 (a - 3) 2 (g_w_get hh ha) rfl hin hd w) k
theorem x_zald {a n : Nat} {f : Nat → Int32} {i : Int32} (hd : decode M.2.1 pc = .ok (.baload, 1)) (hh : h[a]? = some (cZ n f)) (ha : 3 ≤ a) (hin : vp_in i n) (k : X F G M rf rl (pc + 1) lv (.int (f i.toNatClampNeg) :: st) h Q) : X F G M rf rl pc lv (.int i :: .ref a :: st) h Q :=
  X.step (fun p e R s m args below meth c H locs a' n ls Z C hv9 hr hS w => va_zald (D := G.2.1) (cl := vwCl) (tys := g_ty G) C.2.1 C.2.2.1 (g_K C.1 C.2.2.2.2.2.2.2.2) hr.1 (a - 3) 3 (g_w_get hh ha) rfl hin hd w) k
theorem x_lald {a n : Nat} {f : Nat → Int64} {i : Int32} (hd : decode M.2.1 pc = .ok (.laload, 1)) (hh : h[a]? = some (cJ n f)) (ha : 3 ≤ a) (hin : vp_in i n) (k : X F G M rf rl (pc + 1) lv (.long (f i.toNatClampNeg) :: st) h Q) : X F G M rf rl pc lv (.int i :: .ref a :: st) h Q :=
  X.step (fun p e R s m args below meth c H locs a' n ls Z C hv9 hr hS w => va_lald (D := G.2.1) (cl := vwCl) (tys := g_ty G) C.2.1 C.2.2.1 (g_K C.1 C.2.2.2.2.2.2.2.2) hr.1 (a - 3) 1 (g_w_get hh ha) rfl hin hd w) k
theorem g_v_rf (r : Option Nat) : g_v G (va_rf r) = va_rf (r.map (g_ad G)) := by cases r <;> rfl
theorem x_aald {a n t : Nat} {C0 : String} {f : Nat → Option Nat} {i : Int32} {r : Option Nat} (ht : (g_ty G)[t]? = some (g_aC G t, .object C0)) (hd : decode M.2.1 pc = .ok (.aaload, 1)) (hh : h[a]? = some (cR t n f)) (ha : 3 ≤ a) (hin : vp_in i n) (hf : f i.toNatClampNeg = r) (k : X F G M rf rl (pc + 1) lv (va_rf r :: st) h Q) : X F G M rf rl pc lv (.int i :: .ref a :: st) h Q := by
  subst hf
  refine X.step (fun p e R s m args below meth c H locs a' n ls Z C hv9 hr hS w => ?_) k
  rw [List.map_cons, g_v_rf] at w
  exact va_aldq (D := G.2.1) (cl := vwCl) (tys := g_ty G) (C := C0) C.2.1 C.2.2.1 (g_K C.1 C.2.2.2.2.2.2.2.2) hr.1 (a - 3) t (g_w_get hh ha) ht hin hd w
theorem x_alen {a t : Nat} {x : vp_A} {ty : FieldType} {v : Int32} (ht : (g_ty G)[t]? = some (g_aC G t, ty)) (hd : decode M.2.1 pc = .ok (.arraylength, 1)) (hh : h[a]? = some (.inl (t, x))) (ha : 3 ≤ a) (hv : Int32.ofNat x.1 = v) (k : X F G M rf rl (pc + 1) lv (.int v :: st) h Q) : X F G M rf rl pc lv (.ref a :: st) h Q :=
  X.step (fun p e R s m args below meth c H locs a' n ls Z C hv9 hr hS w => va_alen (D := G.2.1) (cl := vwCl) (tys := g_ty G) C.2.1 C.2.2.1 (g_K C.1 C.2.2.2.2.2.2.2.2) hr.1 (a - 3) t (g_w_get hh ha) ht (by exact hv) hd w) k
theorem g_scr {s : State} (hG : GOK G) (ho : Od G s) : va_X (g_o3 G 0) (g_L G) (g_xs G) s s.heap := (va_X.moved ho.1.alike hG.2.2.2.1).kept (ho.2.1 _ (hG.2.2.2.2.2.1 0 (by decide)))
theorem x_sld {i : Int32} (hd : decode M.2.1 pc = .ok (.iaload, 1)) (hin : vp_in i (g_L G)) (k : X F G M rf rl (pc + 1) lv (.int (g_xs G i.toNatClampNeg) :: st) h Q) : X F G M rf rl pc lv (.int i :: .ref 0 :: st) h Q :=
  X.step (fun p e R s m args below meth c H locs a' n ls Z C hv9 hr hS w => va_sld C.2.1 C.2.2.1 (g_scr C.1 C.2.2.2.2.2.2.2.2) (Nat.lt_of_lt_of_le (C.1.2.2.2.2.2.1 0 (by decide)) C.2.2.2.2.2.2.2.2.2.2) (Nat.not_le.mpr (C.1.2.2.2.2.2.1 0 (by decide))) hS hin hd w) k
theorem x_slen (hd : decode M.2.1 pc = .ok (.arraylength, 1)) (k : X F G M rf rl (pc + 1) lv (.int (Int32.ofNat (g_L G)) :: st) h Q) : X F G M rf rl pc lv (.ref 0 :: st) h Q :=
  X.step (fun p e R s m args below meth c H locs a' n ls Z C hv9 hr hS w => va_slen C.2.1 C.2.2.1 (g_scr C.1 C.2.2.2.2.2.2.2.2) (Nat.lt_of_lt_of_le (C.1.2.2.2.2.2.1 0 (by decide)) C.2.2.2.2.2.2.2.2.2.2) (Nat.not_le.mpr (C.1.2.2.2.2.2.1 0 (by decide))) hS hd w) k
theorem arrV_upd (cA : ClassId) (n j : Nat) (f : Nat → Value) (g : Nat → Value) (x : Value) (hg : ∀ q, g q = if q = j then x else f q) : (arrV cA n f).setSlot j x = arrV cA n g := by
  rw [arrV_store]
  congr 1
  funext q
  rw [hg q]
  rfl
theorem x_iast {a n : Nat} {f : Nat → Int32} {i x : Int32} (hd : decode M.2.1 pc = .ok (.iastore, 1)) (hh : h[a]? = some (cI n f)) (ha : 3 ≤ a) (hin : vp_in i n) (k : ∀ h2 : List PE, h2[a]? = some (cI n (upd f i.toNatClampNeg x)) → (∀ j, j ≠ a → h2[j]? = h[j]?) → h2.length = h.length → g_s h2 = g_s h → X F G M rf rl (pc + 1) lv st h2 Q) : X F G M rf rl pc lv (.int x :: .int i :: .ref a :: st) h Q := by
  refine X.stepH (h2 := h.set a (cI n (upd f i.toNatClampNeg x))) (by simp) (g_s_set hh rfl) (fun p e R s m args below meth c H locs a' n9 ls Z C hr hS w => ?_) (at_set9 (c' := cI n (upd f i.toNatClampNeg x)) hh rfl k)
  refine W.iast C.2.1 C.2.2.1 (hr.1 (a - 3) _ (g_w_get hh ha)) (g_arr C.1 C.2.2.2.2.2.2.2.2 (t := 0) rfl n (fun j => .int (f j))) (fun q => by cases q) (by show ¬ (i < 0 ∨ (arrV _ _ _).slots.size ≤ _); rw [arrV_size]; exact hin) rfl rfl hd fun H1 e z oq => w H1 _ (hr.put hh ha ?_ z oq) (hS.put z oq (g_ad_B ha))
  exact e.trans (congrArg some (arrV_upd _ n i.toNatClampNeg (fun j => .int (f j)) (fun j => .int (upd f i.toNatClampNeg x j)) (.int x) (fun q => by unfold upd; split <;> rfl)))
theorem x_bast {a n : Nat} {f : Nat → Int32} {i x : Int32} (hd : decode M.2.1 pc = .ok (.bastore, 1)) (hh : h[a]? = some (cB n f)) (ha : 3 ≤ a) (hin : vp_in i n) (k : ∀ h2 : List PE, h2[a]? = some (cB n (upd f i.toNatClampNeg (x.toInt8.toInt32))) → (∀ j, j ≠ a → h2[j]? = h[j]?) → h2.length = h.length → g_s h2 = g_s h → X F G M rf rl (pc + 1) lv st h2 Q) : X F G M rf rl pc lv (.int x :: .int i :: .ref a :: st) h Q := by
  refine X.stepH (h2 := h.set a (cB n (upd f i.toNatClampNeg (x.toInt8.toInt32)))) (by simp) (g_s_set hh rfl) (fun p e R s m args below meth c H locs a' n9 ls Z C hr hS w => ?_) (at_set9 (c' := cB n (upd f i.toNatClampNeg (x.toInt8.toInt32))) hh rfl k)
  refine W.bast C.2.1 C.2.2.1 (hr.1 (a - 3) _ (g_w_get hh ha)) (g_arr C.1 C.2.2.2.2.2.2.2.2 (t := 2) rfl n (fun j => .int (f j))) (fun q => by cases q) (by show ¬ (i < 0 ∨ (arrV _ _ _).slots.size ≤ _); rw [arrV_size]; exact hin) rfl rfl hd fun H1 e z oq => w H1 _ (hr.put hh ha ?_ z oq) (hS.put z oq (g_ad_B ha))
  exact e.trans (congrArg some (arrV_upd _ n i.toNatClampNeg (fun j => .int (f j)) (fun j => .int (upd f i.toNatClampNeg x.toInt8.toInt32 j)) _ (fun q => by unfold upd; split <;> rfl)))
theorem x_zast {a n : Nat} {f : Nat → Int32} {i x : Int32} (hd : decode M.2.1 pc = .ok (.bastore, 1)) (hh : h[a]? = some (cZ n f)) (ha : 3 ≤ a) (hin : vp_in i n) (hx : x = 0 ∨ x = 1) (k : ∀ h2 : List PE, h2[a]? = some (cZ n (upd f i.toNatClampNeg x)) → (∀ j, j ≠ a → h2[j]? = h[j]?) → h2.length = h.length → g_s h2 = g_s h → X F G M rf rl (pc + 1) lv st h2 Q) : X F G M rf rl pc lv (.int x :: .int i :: .ref a :: st) h Q := by
  have hnx : narrow .boolean (.int x) = .int x := by rcases hx with rfl | rfl <;> rfl
  refine X.stepH (h2 := h.set a (cZ n (upd f i.toNatClampNeg x))) (by simp) (g_s_set hh rfl) (fun p e R s m args below meth c H locs a' n9 ls Z C hr hS w => ?_) (at_set9 (c' := cZ n (upd f i.toNatClampNeg x)) hh rfl k)
  refine W.zast C.2.1 C.2.2.1 (hr.1 (a - 3) _ (g_w_get hh ha)) (g_arr C.1 C.2.2.2.2.2.2.2.2 (t := 3) rfl n (fun j => .int (f j))) (fun q => by cases q) (by show ¬ (i < 0 ∨ (arrV _ _ _).slots.size ≤ _); rw [arrV_size]; exact hin) rfl rfl hd fun H1 e z oq => w H1 _ (hr.put hh ha ?_ z oq) (hS.put z oq (g_ad_B ha))
  rw [hnx] at e
  exact e.trans (congrArg some (arrV_upd _ n i.toNatClampNeg (fun j => .int (f j)) (fun j => .int (upd f i.toNatClampNeg x j)) (.int x) (fun q => by unfold upd; split <;> rfl)))
theorem x_last {a n : Nat} {f : Nat → Int64} {i : Int32} {x : Int64} (hd : decode M.2.1 pc = .ok (.lastore, 1)) (hh : h[a]? = some (cJ n f)) (ha : 3 ≤ a) (hin : vp_in i n) (k : ∀ h2 : List PE, h2[a]? = some (cJ n (vp_updL f i.toNatClampNeg x)) → (∀ j, j ≠ a → h2[j]? = h[j]?) → h2.length = h.length → g_s h2 = g_s h → X F G M rf rl (pc + 1) lv st h2 Q) : X F G M rf rl pc lv (.long x :: .int i :: .ref a :: st) h Q := by
  refine X.stepH (h2 := h.set a (cJ n (vp_updL f i.toNatClampNeg x))) (by simp) (g_s_set hh rfl) (fun p e R s m args below meth c H locs a' n9 ls Z C hr hS w => ?_) (at_set9 (c' := cJ n (vp_updL f i.toNatClampNeg x)) hh rfl k)
  refine W.last C.2.1 C.2.2.1 (hr.1 (a - 3) _ (g_w_get hh ha)) (g_arr C.1 C.2.2.2.2.2.2.2.2 (t := 1) rfl n (fun j => .long (f j))) (fun q => by cases q) (by show ¬ (i < 0 ∨ (arrV _ _ _).slots.size ≤ _); rw [arrV_size]; exact hin) rfl rfl hd fun H1 e z oq => w H1 _ (hr.put hh ha ?_ z oq) (hS.put z oq (g_ad_B ha))
  exact e.trans (congrArg some (arrV_upd _ n i.toNatClampNeg (fun j => .long (f j)) (fun j => .long (vp_updL f i.toNatClampNeg x j)) (.long x) (fun q => by unfold vp_updL; split <;> rfl)))
theorem x_aast {a n t v ci : Nat} {q : vw_C} {fs : List Value} {f : Nat → Option Nat} {i : Int32} (ht : (g_ty G)[t]? = some (g_aC G t, .object q.1)) (hc : vwCl[ci]? = some q) (hd : decode M.2.1 pc = .ok (.aastore, 1)) (hh : h[a]? = some (cR t n f)) (ha : 3 ≤ a) (hvv : h[v]? = some (cO ci fs)) (hv3 : 3 ≤ v) (hin : vp_in i n) (k : ∀ h2 : List PE, h2[a]? = some (cR t n (va_up f i.toNatClampNeg (some v))) → (∀ j, j ≠ a → h2[j]? = h[j]?) → h2.length = h.length → g_s h2 = g_s h → X F G M rf rl (pc + 1) lv st h2 Q) : X F G M rf rl pc lv (.ref v :: .int i :: .ref a :: st) h Q := by
  refine X.stepH (h2 := h.set a (cR t n (va_up f i.toNatClampNeg (some v)))) (by simp) (g_s_set hh rfl) (fun p e R s m args below meth c H locs a' n9 ls Z C hr hS w => ?_) (at_set9 (c' := cR t n (va_up f i.toNatClampNeg (some v))) hh rfl k)
  have hlt : i.toNatClampNeg < n := Nat.not_le.mp fun q => hin (Or.inr q)
  have h0 : ¬ i < 0 := fun q => hin (Or.inl q)
  have hK := g_K C.1 C.2.2.2.2.2.2.2.2
  obtain ⟨r', hr', cellV, g1, g2, g3, -⟩ := hr.1 (v - 3) _ (g_w_get hvv hv3)
  have hcls := (hK.1 ci q hc).2
  obtain ⟨kA, comp, k1, k2, k3, -⟩ := (hK.2 t _ ht).2
  have hcomp : comp = G.2.1.1 ci := Option.some.inj (k3.symm.trans hcls.1)
  subst hcomp
  obtain ⟨kC, hkC, -⟩ := hcls.2
  refine W.aast C.2.1 C.2.2.1 (hr.1 (a - 3) _ (g_w_get hh ha)) (fun q h => by cases h) (fun h => by cases h) k1 k2 rfl hkC ⟨h0, by show _ < (arrV _ _ _).slots.size; rw [arrV_size]; exact hlt⟩ g1 (fun q h => by rw [g3] at h; cases h) (by rw [g2]; exact hkC) (by rw [g2]; exact va_assign hcls) rfl rfl hd fun H1 e z oq => w H1 _ (hr.put hh ha ?_ z oq) (hS.put z oq (g_ad_B ha))
  exact e.trans (congrArg some (arrV_upd _ n i.toNatClampNeg (fun j => va_rf ((f j).map (g_ad G))) (fun j => va_rf ((va_up f i.toNatClampNeg (some v) j).map (g_ad G))) (.ref (g_ad G v)) (fun q => by unfold va_up; split <;> rfl)))
theorem x_aastN {a n t : Nat} {C0 : String} {f : Nat → Option Nat} {i : Int32} (ht : (g_ty G)[t]? = some (g_aC G t, .object C0)) (hd : decode M.2.1 pc = .ok (.aastore, 1)) (hh : h[a]? = some (cR t n f)) (ha : 3 ≤ a) (hin : vp_in i n) (k : ∀ h2 : List PE, h2[a]? = some (cR t n (va_up f i.toNatClampNeg none)) → (∀ j, j ≠ a → h2[j]? = h[j]?) → h2.length = h.length → g_s h2 = g_s h → X F G M rf rl (pc + 1) lv st h2 Q) : X F G M rf rl pc lv (.null :: .int i :: .ref a :: st) h Q := by
  refine X.stepH (h2 := h.set a (cR t n (va_up f i.toNatClampNeg none))) (by simp) (g_s_set hh rfl) (fun p e R s m args below meth c H locs a' n9 ls Z C hr hS w => ?_) (at_set9 (c' := cR t n (va_up f i.toNatClampNeg none)) hh rfl k)
  refine va_WaastN (C := C0) C.2.1 C.2.2.1 (hr.1 (a - 3) _ (g_w_get hh ha)) (g_arr C.1 C.2.2.2.2.2.2.2.2 ht n (fun j => va_rf ((f j).map (g_ad G)))) (fun h => by cases h) (by show ¬ (i < 0 ∨ (arrV _ _ _).slots.size ≤ _); rw [arrV_size]; exact hin) rfl rfl hd fun H1 e z oq => w H1 _ (hr.put hh ha ?_ z oq) (hS.put z oq (g_ad_B ha))
  exact e.trans (congrArg some (arrV_upd _ n i.toNatClampNeg (fun j => va_rf ((f j).map (g_ad G))) (fun j => va_rf ((va_up f i.toNatClampNeg none j).map (g_ad G))) .null (fun q => by unfold va_up; split <;> rfl)))
end XH

/-! ===== the law's start ===== -/
section ST0
variable {args : Array Value} {s : State}
theorem kn_of {own : String} {idx ci N : Nat} {fs : List Value} (hn : NL own idx ci N fs) (hts : ∀ w ∈ lw_tbl, w.before args s = true) : ∃ p : ClassId × (Nat → Nat), ∀ q, vwCl[ci]? = some q → u_Kn s q.1 q.2.1 q.2.2 p.1 p.2 := by
  obtain ⟨C, T, ty0, hc, hin, -, -, hins, -⟩ := hn
  obtain ⟨cC, iS, h⟩ := u_known hts hin (hts _ hins)
  refine ⟨(cC, iS), fun q hq => ?_⟩
  rw [hc] at hq
  cases hq
  exact h
theorem kn_13 (hts : ∀ w ∈ lw_tbl, w.before args s = true) : ∃ p : ClassId × (Nat → Nat), ∀ q, vwCl[13]? = some q → u_Kn s q.1 q.2.1 q.2.2 p.1 p.2 := by
  obtain ⟨cC, iS, h⟩ := u_known (C := nse) (T := TX0) (N := 0) (n := 6) hts (fun w hw => by simp [u_ws] at hw) (hts _ (ns_6 _ (by simp [nsR])))
  refine ⟨(cC, iS), fun q hq => ?_⟩
  cases hq
  exact h
theorem kn_all (hts : ∀ w ∈ lw_tbl, w.before args s = true) (k : Nat) : ∃ p : ClassId × (Nat → Nat), ∀ q, vwCl[k]? = some q → u_Kn s q.1 q.2.1 q.2.2 p.1 p.2 := by
  match k with
  | 0 => exact kn_of nX11_23 hts
  | 1 => exact kn_of nX11_16 hts
  | 2 => exact kn_of nX1_171 hts
  | 3 => exact kn_of nX11_48 hts
  | 4 => exact kn_of nX11_34 hts
  | 5 => exact kn_of nX1_206 hts
  | 6 => exact kn_of nX1_106 hts
  | 7 => exact kn_of nX11_41 hts
  | 8 => exact kn_of nX11_7 hts
  | 9 => exact kn_of nX1_148 hts
  | 10 => exact kn_of nX1_11 hts
  | 11 => exact kn_of nL_8 hts
  | 12 => exact kn_of nL_16 hts
  | 13 => exact kn_13 hts
  | k + 14 =>
    obtain ⟨p, -⟩ := kn_13 hts
    exact ⟨p, fun q hq => by simp at hq⟩
theorem ar_prim {ty : FieldType} (hp : ty = .int ∨ ty = .long ∨ ty = .byte ∨ ty = .boolean) (hw : (Cond.arrayClass ty).before args s = true) : ∃ cA : ClassId, ArrOfT s cA ty ∧ va_RA s cA ty := by
  obtain ⟨c, k, comp, h1, h2, h3⟩ := Cond.arrayClass_spec hw
  refine ⟨c, fun n z => ⟨(fun k h => by cases h), k, h2, comp, h3⟩, ?_⟩
  rcases hp with rfl | rfl | rfl | rfl <;> exact h1
theorem ar_obj {C : String} (hw : (Cond.arrayOver (.object C)).before args s = true) : ∃ cA : ClassId, ArrOfT s cA (.object C) ∧ va_RA s cA (.object C) := by
  obtain ⟨comp, c, k, h1, h2, h3, h4, h5⟩ := Cond.arrayOver_spec hw
  exact ⟨c, fun n z => ⟨(fun k h => by cases h), k, h3, comp, h4⟩, k, comp, h3, h4, h1, h5⟩
def arT : List FieldType := [.int, .long, .byte, .boolean, .object "FoamArms$Foam", .object "FoamArms$Thing", .object "FoamArms$Box", .object "FoamArms$Drop", .object "FoamArms$Book"]
theorem ar_of {ty : FieldType} {k : Nat} (hk : arT[k]? = some ty) (h : ∃ cA : ClassId, ArrOfT s cA ty ∧ va_RA s cA ty) : ∃ cA : ClassId, ∀ t, arT[k]? = some t → ArrOfT s cA t ∧ va_RA s cA t := by
  obtain ⟨cA, h⟩ := h
  refine ⟨cA, fun t ht => ?_⟩
  rw [hk] at ht
  cases ht
  exact h
theorem ar_all (hts : ∀ w ∈ lw_tbl, w.before args s = true) (k : Nat) : ∃ cA : ClassId, ∀ t, arT[k]? = some t → ArrOfT s cA t ∧ va_RA s cA t := by
  match k with
  | 0 => exact ar_of rfl (ar_prim (by simp) (hts _ ac_int))
  | 1 => exact ar_of rfl (ar_prim (by simp) (hts _ ac_long))
  | 2 => exact ar_of rfl (ar_prim (by simp) (hts _ ac_byte))
  | 3 => exact ar_of rfl (ar_prim (by simp) (hts _ ac_boolean))
  | 4 => exact ar_of rfl (ar_obj (hts _ ao_4))
  | 5 => exact ar_of rfl (ar_obj (hts _ ao_5))
  | 6 => exact ar_of rfl (ar_obj (hts _ ao_6))
  | 7 => exact ar_of rfl (ar_obj (hts _ ao_7))
  | 8 => exact ar_of rfl (ar_obj (hts _ ao_8))
  | k + 9 =>
    obtain ⟨cA, -⟩ := ar_prim (ty := .int) (by simp) (hts _ ac_int)
    exact ⟨cA, fun t ht => by simp [arT] at ht⟩
theorem in_iS : Cond.initialized "java/lang/String" ∈ lw_tbl := inT1 (List.mem_of_getElem? (i := 5) (by decide +kernel))
theorem in_iP : Cond.initialized "jdk/internal/util/Preconditions" ∈ lw_tbl := inT1 (List.mem_of_getElem? (i := 7) (by decide +kernel))
theorem in_iT : Cond.initialized Bundle.tN ∈ lw_tbl := inT1 (List.mem_of_getElem? (i := 20) (by decide +kernel))
theorem in_lU : Cond.laysStatic Bundle.tN "UNASSIGNED_STACK" Bundle.steD ∈ lw_tbl := inT5 (List.mem_of_getElem? (i := 9) (by decide +kernel))
theorem in_lN : Cond.laysStatic Bundle.tN "SUPPRESSED_SENTINEL" Bundle.listD ∈ lw_tbl := inT5 (List.mem_of_getElem? (i := 11) (by decide +kernel))
end ST0
theorem st_narrow {args : Array Value} {s : State} (hn : (Jvm.Cond.and given_1 narrow_1).before args s = true) :
    (Cond.eq (.static "java/lang/String" "COMPACT_STRINGS" "Z") (.int 1)).before args s = true ∧ (Cond.isRef (.static "jdk/internal/util/Preconditions" "SIOOBE_FORMATTER" "Ljava/util/function/BiFunction;")).before args s = true ∧
    (Cond.isRef (.static Bundle.tN "UNASSIGNED_STACK" Bundle.steD)).before args s = true ∧ (Cond.isRef (.static Bundle.tN "SUPPRESSED_SENTINEL" Bundle.listD)).before args s = true ∧ (Cond.exactly (.string "FoamArms" 242) "java/lang/String").before args s = true := by
  have hs := flat_of_before _ hn
  exact ⟨hs _ (by decide +kernel), hs _ (by decide +kernel), hs _ (by decide +kernel), hs _ (by decide +kernel), hs _ (by decide +kernel)⟩
/-- all that is fixed of the law's start -/
theorem g_start (l : Launch) {s : State} {b L : Nat} {xs : Nat → Int32} (hfl : l.flags = flags0) (hts : ∀ w ∈ lw_tbl, w.before #[Value.ref b] s = true) (hX : va_X b L xs s s.heap) (hbl : b < s.heap.size) (hgv : (Jvm.Cond.and given_1 narrow_1).before #[Value.ref b] s = true) :
    ∃ G : GT, (G.1 = l ∧ g_s0 G = s ∧ g_B G = s.heap.size ∧ g_L G = L ∧ g_xs G = xs ∧ g_o3 G 0 = b) ∧ GOK G ∧ GS G ∧ GE G := by
  have hA : ∀ a : Nat, a < s.heap.size → ¬ (fun q : Nat => s.heap.size ≤ q) a := fun a h => Nat.not_le.mpr h
  obtain ⟨adK, adV, hS1, hEv⟩ := gs_str (A := fun q : Nat => s.heap.size ≤ q) hgv hA
  obtain ⟨n1, n2, n3, n4, n5⟩ := st_narrow hgv
  obtain ⟨dp, hdp⟩ : ∃ f : Nat → ClassId × (Nat → Nat), ∀ k q, vwCl[k]? = some q → u_Kn s q.1 q.2.1 q.2.2 (f k).1 (f k).2 := ⟨fun k => Classical.choose (kn_all hts k), fun k => Classical.choose_spec (kn_all hts k)⟩
  obtain ⟨aC, haC⟩ : ∃ f : Nat → ClassId, ∀ k t, arT[k]? = some t → ArrOfT s (f k) t ∧ va_RA s (f k) t := ⟨fun k => Classical.choose (ar_all hts k), fun k => Classical.choose_spec (ar_all hts k)⟩
  obtain ⟨z1, z2, z3, z4⟩ := hS1.1 0 (by decide)
  have kK : adK 0 < s.heap.size := by
    obtain ⟨cell, hc, -⟩ := z1
    exact (Array.getElem?_eq_some_iff.mp hc).1
  have kV : adV 0 < s.heap.size := by
    obtain ⟨cell, hc, -⟩ := z4
    exact (Array.getElem?_eq_some_iff.mp hc).1
  obtain ⟨sa, -, -, -, hsa, -⟩ := Cond.exactly_spec n5
  have hcs : (Term.static "java/lang/String" "COMPACT_STRINGS" "Z").eval #[Value.ref b] s none [] s = some (.int 1) := by
    obtain ⟨w, h1, h2⟩ := Cond.eq_one (show (Cond.eq (.static "java/lang/String" "COMPACT_STRINGS" "Z") (.int 1)).holds #[Value.ref b] s none s [] = true from n1)
    cases h2
    exact h1
  refine ⟨(l, (fun k => (dp k).1, fun k => (dp k).2), aC, s.heap.size, fun k => if k = 0 then b else if k = 1 then adK 0 else adV 0, s, #[Value.ref b], L, xs), ⟨rfl, rfl, rfl, rfl, rfl, rfl⟩, ?_, ?_, ?_⟩
  · refine ⟨hts, hgv, ⟨hdp, fun k q hq => ?_⟩, hX, rfl, fun k hk => ?_, hfl⟩
    · match k, hq with
      | 0, hq => cases hq; exact haC 0 _ rfl
      | 1, hq => cases hq; exact haC 1 _ rfl
      | 2, hq => cases hq; exact haC 2 _ rfl
      | 3, hq => cases hq; exact haC 3 _ rfl
      | 4, hq => cases hq; exact haC 4 _ rfl
      | 5, hq => cases hq; exact haC 5 _ rfl
      | 6, hq => cases hq; exact haC 6 _ rfl
      | 7, hq => cases hq; exact haC 7 _ rfl
      | 8, hq => cases hq; exact haC 8 _ rfl
      | k + 9, hq => simp [g_ty] at hq
    · rcases (show k = 0 ∨ k = 1 ∨ k = 2 by omega) with rfl | rfl | rfl
      · exact hbl
      · exact kK
      · exact kV
  · refine ⟨⟨fun i hi => ?_, fun i j hi hj _ => by omega⟩, vk_R.of (A := #[Value.ref b]) (hts _ lk_scT) (hEv 0 (by decide)), va_Zof (hts _ lk_lsC) (hts _ in_iS) hcs hA, va_Zqof (hts _ lk_lsF) (hts _ in_iP) n2 hA⟩
    have e : i = 0 := by omega
    subst e
    exact ⟨z1, z2, z3, z4⟩
  · exact ⟨⟨sa, vk_R.of (A := #[Value.ref b]) (hts _ ns_str) hsa⟩, vx_Zqof (hts _ in_lU) (hts _ in_iT) n3 hA, vx_Zqof (hts _ in_lN) (hts _ in_iT) n4 hA⟩

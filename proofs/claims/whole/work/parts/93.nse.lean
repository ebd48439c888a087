/-! ===== the throw of NoSuchElementException: its constructor calls up by pool number 13 ===== -/
abbrev nse : String := "java/util/NoSuchElementException"
abbrev rtx : String := "java/lang/RuntimeException"
abbrev exc : String := "java/lang/Exception"
def nsB : ByteArray := ⟨#[0x2a, 0x2b, 0xb7, 0x00, 0x0d, 0xb1]⟩
theorem nsB_0 : decode nsB 0 = .ok (.aload_n 0, 1) := by decide +kernel
theorem nsB_1 : decode nsB 1 = .ok (.aload_n 1, 1) := by decide +kernel
theorem nsB_2 : decode nsB 2 = .ok (.invokespecial 13, 3) := by decide +kernel
theorem nsB_5 : decode nsB 5 = .ok (.return_, 1) := by decide +kernel
def nsR : List Cond := [.methodLink "FoamArms" 244 (Bundle.initS nse), .instantiable nse 6, .castable nse nse, .selects nse Bundle.tFill0 Bundle.tFill0, .selects nse Bundle.tFill Bundle.tFill, .lays nse Bundle.tN "cause" "Ljava/lang/Throwable;", .lays nse Bundle.tN "stackTrace" Bundle.steD, .lays nse Bundle.tN "suppressedExceptions" Bundle.listD, .lays nse Bundle.tN "detailMessage" "Ljava/lang/String;", .fieldLink Bundle.tN 198 Bundle.tN "backtrace" "Ljava/lang/Object;", .lays Bundle.tN Bundle.tN "backtrace" "Ljava/lang/Object;", .lays nse Bundle.tN "backtrace" "Ljava/lang/Object;"]
def nsW : List Cond := Bundle.throwableAtoms ++ (Bundle.throwableSAtoms ++ (Bundle.passSAtoms nse rtx 13 nsB ++ (Bundle.chainSAtoms rtx [exc] ++ nsR)))
theorem ns_1 : ∀ w ∈ Bundle.throwableAtoms, w ∈ lw_tbl := List.forall_mem_cons.mpr ⟨inT1 (List.mem_of_getElem? (i := 20) (by decide +kernel)), List.forall_mem_cons.mpr ⟨inT5 (List.mem_of_getElem? (i := 4) (by decide +kernel)), List.forall_mem_cons.mpr ⟨inT5 (List.mem_of_getElem? (i := 13) (by decide +kernel)), List.forall_mem_cons.mpr ⟨inT5 (List.mem_of_getElem? (i := 15) (by decide +kernel)), List.forall_mem_cons.mpr ⟨inT5 (List.mem_of_getElem? (i := 18) (by decide +kernel)), List.forall_mem_cons.mpr ⟨inT5 (List.mem_of_getElem? (i := 20) (by decide +kernel)), List.forall_mem_cons.mpr ⟨inT5 (List.mem_of_getElem? (i := 5) (by decide +kernel)), List.forall_mem_cons.mpr ⟨inT5 (List.mem_of_getElem? (i := 6) (by decide +kernel)), List.forall_mem_cons.mpr ⟨inT1 (List.mem_of_getElem? (i := 30) (by decide +kernel)), List.forall_mem_cons.mpr ⟨inT1 (List.mem_of_getElem? (i := 31) (by decide +kernel)), List.forall_mem_cons.mpr ⟨inT5 (List.mem_of_getElem? (i := 7) (by decide +kernel)), List.forall_mem_cons.mpr ⟨inT5 (List.mem_of_getElem? (i := 12) (by decide +kernel)), List.forall_mem_cons.mpr ⟨inT5 (List.mem_of_getElem? (i := 16) (by decide +kernel)), List.forall_mem_cons.mpr ⟨inT5 (List.mem_of_getElem? (i := 36) (by decide +kernel)), List.forall_mem_cons.mpr ⟨inT4 (List.mem_of_getElem? (i := 234) (by decide +kernel)), List.forall_mem_cons.mpr ⟨inT5 (List.mem_of_getElem? (i := 37) (by decide +kernel)), List.forall_mem_cons.mpr ⟨inT4 (List.mem_of_getElem? (i := 236) (by decide +kernel)), List.forall_mem_cons.mpr ⟨inT5 (List.mem_of_getElem? (i := 38) (by decide +kernel)), List.forall_mem_cons.mpr ⟨inT4 (List.mem_of_getElem? (i := 238) (by decide +kernel)), List.forall_mem_cons.mpr ⟨inT5 (List.mem_of_getElem? (i := 8) (by decide +kernel)), List.forall_mem_cons.mpr ⟨inT5 (List.mem_of_getElem? (i := 9) (by decide +kernel)), List.forall_mem_cons.mpr ⟨inT5 (List.mem_of_getElem? (i := 10) (by decide +kernel)), List.forall_mem_cons.mpr ⟨inT5 (List.mem_of_getElem? (i := 11) (by decide +kernel)), List.forall_mem_cons.mpr ⟨inT5 (List.mem_of_getElem? (i := 0) (by decide +kernel)), fun _ h => absurd h List.not_mem_nil⟩⟩⟩⟩⟩⟩⟩⟩⟩⟩⟩⟩⟩⟩⟩⟩⟩⟩⟩⟩⟩⟩⟩⟩
theorem ns_2 : ∀ w ∈ Bundle.throwableSAtoms, w ∈ lw_tbl := List.forall_mem_cons.mpr ⟨inT5 (List.mem_of_getElem? (i := 32) (by decide +kernel)), List.forall_mem_cons.mpr ⟨inT5 (List.mem_of_getElem? (i := 33) (by decide +kernel)), List.forall_mem_cons.mpr ⟨inT5 (List.mem_of_getElem? (i := 35) (by decide +kernel)), List.forall_mem_cons.mpr ⟨inT5 (List.mem_of_getElem? (i := 0) (by decide +kernel)), fun _ h => absurd h List.not_mem_nil⟩⟩⟩⟩
theorem ns_3 : ∀ w ∈ Bundle.passSAtoms nse rtx 13 nsB, w ∈ lw_tbl := List.forall_mem_cons.mpr ⟨inT5 (List.mem_of_getElem? (i := 23) (by decide +kernel)), List.forall_mem_cons.mpr ⟨inT5 (List.mem_of_getElem? (i := 24) (by decide +kernel)), List.forall_mem_cons.mpr ⟨inT5 (List.mem_of_getElem? (i := 25) (by decide +kernel)), List.forall_mem_cons.mpr ⟨inT5 (List.mem_of_getElem? (i := 26) (by decide +kernel)), List.forall_mem_cons.mpr ⟨inT4 (List.mem_of_getElem? (i := 226) (by decide +kernel)), fun _ h => absurd h List.not_mem_nil⟩⟩⟩⟩⟩
theorem ns_4 : ∀ w ∈ Bundle.passSAtoms rtx exc 7 Bundle.six, w ∈ lw_tbl := List.forall_mem_cons.mpr ⟨inT5 (List.mem_of_getElem? (i := 26) (by decide +kernel)), List.forall_mem_cons.mpr ⟨inT5 (List.mem_of_getElem? (i := 27) (by decide +kernel)), List.forall_mem_cons.mpr ⟨inT5 (List.mem_of_getElem? (i := 28) (by decide +kernel)), List.forall_mem_cons.mpr ⟨inT5 (List.mem_of_getElem? (i := 29) (by decide +kernel)), List.forall_mem_cons.mpr ⟨inT4 (List.mem_of_getElem? (i := 228) (by decide +kernel)), fun _ h => absurd h List.not_mem_nil⟩⟩⟩⟩⟩
theorem ns_5 : ∀ w ∈ Bundle.passSAtoms exc Bundle.tN 7 Bundle.six, w ∈ lw_tbl := List.forall_mem_cons.mpr ⟨inT5 (List.mem_of_getElem? (i := 29) (by decide +kernel)), List.forall_mem_cons.mpr ⟨inT5 (List.mem_of_getElem? (i := 30) (by decide +kernel)), List.forall_mem_cons.mpr ⟨inT5 (List.mem_of_getElem? (i := 31) (by decide +kernel)), List.forall_mem_cons.mpr ⟨inT5 (List.mem_of_getElem? (i := 32) (by decide +kernel)), List.forall_mem_cons.mpr ⟨inT4 (List.mem_of_getElem? (i := 230) (by decide +kernel)), fun _ h => absurd h List.not_mem_nil⟩⟩⟩⟩⟩
theorem ns_6 : ∀ w ∈ nsR, w ∈ lw_tbl := List.forall_mem_cons.mpr ⟨inT5 (List.mem_of_getElem? (i := 22) (by decide +kernel)), List.forall_mem_cons.mpr ⟨inT4 (List.mem_of_getElem? (i := 223) (by decide +kernel)), List.forall_mem_cons.mpr ⟨inT4 (List.mem_of_getElem? (i := 224) (by decide +kernel)), List.forall_mem_cons.mpr ⟨inT4 (List.mem_of_getElem? (i := 231) (by decide +kernel)), List.forall_mem_cons.mpr ⟨inT4 (List.mem_of_getElem? (i := 232) (by decide +kernel)), List.forall_mem_cons.mpr ⟨inT4 (List.mem_of_getElem? (i := 233) (by decide +kernel)), List.forall_mem_cons.mpr ⟨inT4 (List.mem_of_getElem? (i := 235) (by decide +kernel)), List.forall_mem_cons.mpr ⟨inT4 (List.mem_of_getElem? (i := 237) (by decide +kernel)), List.forall_mem_cons.mpr ⟨inT4 (List.mem_of_getElem? (i := 239) (by decide +kernel)), List.forall_mem_cons.mpr ⟨inT5 (List.mem_of_getElem? (i := 3) (by decide +kernel)), List.forall_mem_cons.mpr ⟨inT5 (List.mem_of_getElem? (i := 2) (by decide +kernel)), List.forall_mem_cons.mpr ⟨inT5 (List.mem_of_getElem? (i := 1) (by decide +kernel)), fun _ h => absurd h List.not_mem_nil⟩⟩⟩⟩⟩⟩⟩⟩⟩⟩⟩⟩
theorem ns_in : ∀ w ∈ nsW, w ∈ lw_tbl := List.forall_mem_append.mpr ⟨ns_1, List.forall_mem_append.mpr ⟨ns_2, List.forall_mem_append.mpr ⟨ns_3, List.forall_mem_append.mpr ⟨List.forall_mem_append.mpr ⟨ns_4, ns_5⟩, ns_6⟩⟩⟩⟩
theorem ns_cl : Cond.classLink "FoamArms" 240 nse ∈ lw_tbl := inT4 (List.mem_of_getElem? (i := 222) (by decide +kernel))
theorem ns_ini : Cond.initialized nse ∈ lw_tbl := inT1 (List.mem_of_getElem? (i := 23) (by decide +kernel))
theorem ns_str : Cond.stringRef "FoamArms" 242 "no such thing, or legs not as told" ∈ lw_tbl := inT5 (List.mem_of_getElem? (i := 21) (by decide +kernel))
theorem ns_clL : Cond.classLink "FoamArmsLaw" 13 nse ∈ lw_tbl := inT4 (List.mem_of_getElem? (i := 201) (by decide +kernel))
theorem ns_cast : Cond.castable nse nse ∈ lw_tbl := inT4 (List.mem_of_getElem? (i := 224) (by decide +kernel))
/-- all of them are words on the tables, but two; all stay under warmer tables, but six -/
theorem ns_ot : ∀ w ∈ nsW, w.onTables = true ∨ w = .laysStatic Bundle.tN "UNASSIGNED_STACK" Bundle.steD ∨ w = .laysStatic Bundle.tN "SUPPRESSED_SENTINEL" Bundle.listD := by decide +kernel
theorem ns_good : ∀ w ∈ nsW, goodWord w = true ∨ w = .declares (Bundle.initS rtx) ∨ w = .declares (Bundle.initS exc) ∨ w = .declares (Bundle.initS Bundle.tN) ∨ w = .castable nse nse ∨ w = .laysStatic Bundle.tN "UNASSIGNED_STACK" Bundle.steD ∨ w = .laysStatic Bundle.tN "SUPPRESSED_SENTINEL" Bundle.listD := by decide +kernel

section NY
variable {p : Program} {l : Launch} {e : Env} {R : Room} {s : State} {m : MethodId} {args : Array Value} {below : List Frame} {meth : Method} {c : Code} {T9 : State} {locs : List Loc} {cells slots : Nat}
set_option maxHeartbeats 2000000 in
/-- from the call of its constructor: the constructors up to Throwable's, no trace, and the throw out of the method -/
theorem ny_ctor (X : Stand p l e R s m args below meth c T9 locs cells slots) (hexec : p.tables.exec = Jvm.exec) (htr : e.platform.stackTraces = false)
    (hown : s.vm.findClass "FoamArms" = some m.cls) (h : ∀ a ∈ nsW, a.before args s = true)
    (hrU : (Cond.isRef (.static Bundle.tN "UNASSIGNED_STACK" Bundle.steD)).before args s = true) (hrN : (Cond.isRef (.static Bundle.tN "SUPPRESSED_SENTINEL" Bundle.listD)).before args s = true)
    (hlocs : ∀ x ∈ locs, ∀ cell, s.heap[x.base]? = some cell → cell.vm.isStatics = false)
    {a : Addr} {cX : ClassId} {kX : Class} (hfoundX : s.vm.findClass nse = some cX) (hkX : s.vm.classes[cX]? = some kX) (hcell : T9.heap[a]? = some (freshCell cX kX)) (hnew : s.heap.size ≤ a)
    {msg : Value} (hmsg : msg.isRef = true)
    {g : JFrame} (hg : g.method = m) (hsize : g.locals.size = c.maxLocals) (hlocked : g.locked = none) (hentered : g.entered = []) {rest : List Value} (hstack : g.stack = msg :: .ref a :: .ref a :: rest)
    (hd6 : decode c.code g.pc = .ok (.invokespecial 244, 3)) (hd9 : decode c.code (g.pc + 3) = .ok (.athrow, 1)) (hout : ∀ x ∈ c.exceptionTable.toList, covers x (g.pc + 3) = false)
    (hRframes : 5 < R.frames) (hRlocals : 2 * g.monitorRoom + ((Value.ref a :: rest).map fun v => v.category).sum + 81 ≤ R.locals) (hlocks : meth.locks = false) :
    ∃ U : State, Steps p.tables e below (T9.setTop g) U ∧ U.status = .running ∧ Ended U below (.threw a) ∧ s.WarmedH U.vm ∧ s.sameButNew ({ U with vm := s.vm } : State) locs cells slots ∧
      ∃ ce, U.heap[a]? = some ce ∧ s.vm.findClass nse = some ce.cls ∧ ce.vm = .none := by
  have howns : e.platform.frameOwnsMonitors = true := by rw [X.admits.platform]
  have hfin : e.platform.finalization = false := by rw [X.admits.platform]
  have hpl : e.platform.magicAccessors = ({} : Platform).magicAccessors := by rw [X.admits.platform]
  have w1 : ∀ x ∈ Bundle.throwableAtoms, x.before args s = true := fun x hx => h x (List.mem_append_left _ hx)
  have w2 : ∀ x ∈ Bundle.throwableSAtoms, x.before args s = true := fun x hx => h x (List.mem_append_right _ (List.mem_append_left _ hx))
  have w3 : ∀ x ∈ Bundle.passSAtoms nse rtx 13 nsB, x.before args s = true := fun x hx => h x (List.mem_append_right _ (List.mem_append_right _ (List.mem_append_left _ hx)))
  have w4 : ∀ x ∈ Bundle.chainSAtoms rtx [exc], x.before args s = true := fun x hx => h x (List.mem_append_right _ (List.mem_append_right _ (List.mem_append_right _ (List.mem_append_left _ hx))))
  have w5 : ∀ x ∈ nsR, x.before args s = true := fun x hx => h x (List.mem_append_right _ (List.mem_append_right _ (List.mem_append_right _ (List.mem_append_right _ hx))))
  have a' : ∀ x, x ∈ nsR → x.holds args s none s [] = true := fun x hx => w5 x hx
  obtain ⟨T, Z0, L, -, Y⟩ := ThrowableC.of_atoms (args := args) howns hfin hpl w1
  obtain ⟨Z, M, LZ, LM, hnZ⟩ := Init0T.ofS_atoms (args := args) hpl L Y w2
  obtain ⟨P2, Ps, hlen, L2, hL, hP2m, hlink2, hlink⟩ := Bundle.chainS (args := args) hpl hnZ [exc] rtx (by decide) (by decide) w4
  obtain ⟨P1, L1, hP1m, hP1s⟩ := PassC.ofS_atoms (args := args) (s := s) hpl (X := nse) (Y := rtx) (by decide) (by decide) nsB_0 nsB_1 nsB_2 nsB_5 w3
  have hlink1 : P1.sup = P2.m := Option.some.inj (hP1s.symm.trans hP2m)
  have hfound : s.vm.findClass nse = some P1.m.cls := findClass_of_methodNamed hP1m
  cases Option.some.inj (hfoundX.symm.trans hfound)
  obtain ⟨c1, kX', hc1, hk, hord, -, -, hn6⟩ := Cond.instantiable_spec (a' (.instantiable nse 6) (by simp [nsR]))
  cases Option.some.inj (hc1.symm.trans hfound)
  cases Option.some.inj (hkX.symm.trans hk)
  have hsel0 : selectMethod e.platform s.vm P1.m.cls T.fill0 = .method T.fill0 := by
    obtain ⟨c2, r2, m2, q1, q2, q3, q4, -⟩ := Cond.selects_spec (a' (.selects nse Bundle.tFill0 Bundle.tFill0) (by simp [nsR]))
    cases Option.some.inj (q1.symm.trans hfound)
    cases Option.some.inj (q2.symm.trans (State.methodFound?_of_named Y.fill0 (by decide)))
    cases Option.some.inj (q3.symm.trans Y.fill0)
    rw [Launch.admits_selectMethod X.admits]; exact q4
  have hselF : selectMethod e.platform s.vm P1.m.cls T.fill = .method T.fill := by
    obtain ⟨c2, r2, m2, q1, q2, q3, q4, -⟩ := Cond.selects_spec (a' (.selects nse Bundle.tFill Bundle.tFill) (by simp [nsR]))
    cases Option.some.inj (q1.symm.trans hfound)
    cases Option.some.inj (q2.symm.trans (State.methodFound?_of_named Y.fill (by decide)))
    cases Option.some.inj (q3.symm.trans Y.fill)
    rw [Launch.admits_selectMethod X.admits]; exact q4
  obtain ⟨cellS0, hcS0, hiss⟩ := Y.statics
  obtain ⟨u0, hu0⟩ := Cond.staticRefV Y.unassigned L.unassignedStatic L.statics hcS0 hiss hrU
  obtain ⟨sen, hsen⟩ := Cond.staticRefV Y.sentinel L.sentinelStatic L.statics hcS0 hiss hrN
  obtain ⟨ci198, i198, fB, hk198, hg198, ha198, hsB, -, hnB, htB, hffB⟩ := Cond.ownField (t := .object "java/lang/Object") Y.found L.cls (by decide +kernel) (a' (.fieldLink Bundle.tN 198 Bundle.tN "backtrace" "Ljava/lang/Object;") (by simp [nsR])) (a' (.lays Bundle.tN Bundle.tN "backtrace" "Ljava/lang/Object;") (by simp [nsR])) e.platform hpl
  obtain ⟨cellS, hcS', heS, -, hkeep⟩ := X.same.2.2.2.2.2 T.aS cellS0 hcS0
  have hcellS : T9.heap[T.aS]? = some cellS := hcS'
  have hout' : ∀ i, (⟨T.aS, i⟩ : Loc) ∉ locs := fun i hmem => by
    have := hlocs _ hmem cellS0 hcS0
    rw [hiss] at this; cases this
  have hknownS : cellS.vm ≠ .unknown := by
    rw [heS]; intro hu
    rw [show cellS0.vm = .unknown from hu] at hiss
    cases hiss
  have hneS : T.aS ≠ a := Nat.ne_of_lt (Nat.lt_of_lt_of_le (Array.getElem?_eq_some_iff.mp hcS0).1 hnew)
  obtain ⟨iM, hffM⟩ := Y.msg
  obtain ⟨tyC, dC, hdC, hdnC⟩ := Cond.laysAt hfound hk Y.cause (a' (.lays nse Bundle.tN "cause" "Ljava/lang/Throwable;") (by simp [nsR]))
  obtain ⟨tyS, dS, hdS, hdnS⟩ := Cond.laysAt hfound hk Y.stack (a' (.lays nse Bundle.tN "stackTrace" Bundle.steD) (by simp [nsR]))
  obtain ⟨tyP, dP, hdP, hdnP⟩ := Cond.laysAt hfound hk Y.supp (a' (.lays nse Bundle.tN "suppressedExceptions" Bundle.listD) (by simp [nsR]))
  obtain ⟨tyM, dM, hdM, hdnM⟩ := Cond.laysAt hfound hk hffM (a' (.lays nse Bundle.tN "detailMessage" "Ljava/lang/String;") (by simp [nsR]))
  obtain ⟨tyB, dB, hdB, hdnB⟩ := Cond.laysAt hfound hk hffB (a' (.lays nse Bundle.tN "backtrace" "Ljava/lang/Object;") (by simp [nsR]))
  have bC := Cond.laysApart hdB hdC hdnB hdnC (by rw [hnB, Y.causeName]; decide)
  have bS := Cond.laysApart hdB hdS hdnB hdnS (by rw [hnB, Y.stackName]; decide)
  have bP := Cond.laysApart hdB hdP hdnB hdnP (by rw [hnB, Y.suppName]; decide)
  have hskip : SkipFacts T e.platform s (fun u => u) u0 ((preparedCellV T.toThrowableT (freshCell P1.m.cls kX) a u0 sen).withEntry T9.cur) :=
    ⟨{ ci198 := ci198, i198 := i198, fBack := fB }, ⟨hk198, hg198, ha198, hsB⟩, by
      have := fresh_default (c := P1.m.cls) tyB
      rw [htB] at this
      simpa [preparedCellV, Cell.setSlot, Cell.withEntry, Array.getElem?_setIfInBounds, bC, bS, bP, bC.symm, bS.symm, bP.symm, defaultValue] using this, fun _ _ => rfl⟩
  obtain ⟨tm, methC, cdC, kC, vm₁, hnC, -, -, -, -, -, -, -, hW₁, st1⟩ := Steps.initColdS (tb := p.tables) (e := e) (below := below) (s := s) (U := T9) X.here hexec X.warmed hpl hown (t := Bundle.initS nse) rfl rfl (by decide)
    (a' (.methodLink "FoamArms" 244 (Bundle.initS nse)) (by simp [nsR])) (w3 (.instanceMethod (Bundle.initS nse)) (by simp [Bundle.passSAtoms])) (bytes := nsB) (maxL := 2) (w3 (.code (Bundle.initS nse) nsB 2 none) (by simp [Bundle.passSAtoms]))
    (f := g) hg (a := a) (msg := msg) (rest := .ref a :: rest) hstack hd6
  cases Option.some.inj (hnC.symm.trans hP1m)
  have X₁ := X.noted hW₁
  obtain ⟨vm₂, X₂, st2⟩ := X₁.ctorMessageOffV hexec (g := { g with stack := .ref a :: rest }) hg hsize T L Z LZ M LM (P1 :: P2 :: Ps)
    (fun P hP => by
      rcases List.mem_cons.mp hP with rfl | hP
      · exact L1
      · rcases List.mem_cons.mp hP with rfl | hP
        · exact L2
        · exact hL P hP) ⟨hlink1, hlink2, hlink⟩ (u0 := u0) (sen := sen) (self := a) hmsg (cell := freshCell P1.m.cls kX) (cellS := cellS)
    hcell (fun _ => by simp) (by simp) rfl rfl hsel0 hselF hcellS hneS hknownS (by rw [hkeep _ (hout' _)]; exact hu0) (by rw [hkeep _ (hout' _)]; exact hsen)
    (Takes.of_laid hk hord tyC (by rw [Y.causeType]; rfl)) (Takes.of_laid hk hord tyS (by rw [Y.stackType]; exact fits_refV_array _ u0)) (Takes.of_laid hk hord tyP (by rw [Y.suppType]; exact fits_refV_object _ sen))
    (Takes.of_laid hk hord tyM (by rw [Y.msgType]; exact fits_refV_object _ ⟨msg, hmsg⟩)) Y.objLocals hskip htr [] hd6
    (by simp only [List.length_cons, hlen, List.length_nil]; omega) (by simp only [List.length_cons, hlen, List.length_nil]; exact hRlocals)
  obtain ⟨hwalk, hrun, hended, hWU, hsame⟩ := X₂.athrowLeaves hexec (g := { g with stack := .ref a :: rest, pc := g.pc + 3 }) hg hlocked hentered hout (a := a) (rest := rest) rfl hd9
  have hlt : a < ((T9.setVm vm₁).setVm vm₂).heap.size := (Array.getElem?_eq_some_iff.mp hcell).1
  have hU := heapAt_setCell_self (s := (T9.setVm vm₁).setVm vm₂) (plainBareV T.toThrowableT (freshCell P1.m.cls kX) a u0 sen msg) hlt
  refine ⟨_, st1 _ (fun acts => ?_), hrun, hended, hWU, hsame.weaken (fun y hy hlt' => ?_) (Nat.le_refl _) (Nat.le_refl _), _, hU, hfound, rfl⟩
  · rw [doInvoke_state]
    exact st2 _ hwalk
  · rcases List.mem_append.mp hy with h1 | h1
    · exact h1
    · exfalso
      have hb : y.base = a := by
        simp only [List.mem_cons, List.not_mem_nil, or_false] at h1
        rcases h1 with rfl | rfl | rfl | rfl | rfl <;> rfl
      rw [hb] at hlt'
      exact Nat.not_lt.mpr hnew hlt'
end NY

section NC
variable {p : Program} {l : Launch} {e : Env} {R : Room} {s : State} {m : MethodId} {args : Array Value} {below : List Frame} {meth : Method} {c : Code} {H : Heap} {T : State} {locs : List Loc} {cells slots : Nat} {Q : State → Prop}
/-- a table of one row that catches: what the search finds, and the tables behind it -/
theorem nc_find {S : State} {g : JFrame} {a : Addr} {x : ExceptionTableEntry} {k : ClassId} {cell : Cell} (hm : S.vm.method? g.method = some meth) (hc : meth.code = some c) (htab : c.exceptionTable.toList = [x]) (hx : covers x g.pc = true) (h0 : x.catchType ≠ 0) (hl : S.vm.ClassLinks e.platform g.method.cls x.catchType k) (hcell : S.heap[a]? = some cell) (hobj : ∀ z, cell.vm ≠ .statics z)
    (hk : ∃ q, S.vm.classes[cell.cls]? = some q) (hc2 : ∃ q, S.vm.classes[k]? = some q) (hfit : S.vm.assignable cell.cls k = true) (Q1 : Handler → Pre) (E : CtlPost) (d : Bool) (acts : List Action) :
    wp (findHandler g a) Q1 E e d acts S ↔ Q1 (.found x.handlerPc) d acts (S.setVm (S.vm.noted g.method.cls x.catchType (.cls k))) := by
  rw [_root_.Jvm.W.findHandler_eq hm hc, htab]
  simp only [covers] at hx
  obtain ⟨ha, ht⟩ := (resolveClass_links e.toSetting hl).op (op := VmOp.resolveClass g.method.cls x.catchType) rfl
  have hal : S.vm.Alike (S.vm.noted g.method.cls x.catchType (.cls k)) := (Vm.Alike.refl S.vm).noted _ _ _
  obtain ⟨k1, hk1⟩ := hk
  obtain ⟨k2, hk2⟩ := hc2
  obtain ⟨k1', hk1', -⟩ := hal.2.2 _ _ hk1
  obtain ⟨k2', hk2', -⟩ := hal.2.2 _ _ hk2
  have hfit' : (S.vm.noted g.method.cls x.catchType (.cls k)).assignable cell.cls k = true := by rw [hal.assignable]; exact hfit
  simp [findHandler.go, hx, h0, ha, ht, hcell, hobj, hk1', hk2', hfit', VmOp.dirties, VmOp.acts]
theorem nc_frames (u : State) (vm' : Vm) (F G : List Frame) : ((u.setFrames F).setVm vm').setFrames G = (u.setVm vm').setFrames G := by
  rw [show (u.setFrames F).setVm vm' = (u.setVm vm').setFrames F from rfl, State.setFrames_setFrames]
theorem nc_step {S : State} {g : JFrame} {a : Addr} {r : List Frame} {pc1 : Nat} {vm1 : Vm} (hf : ∀ (Q1 : Handler → Pre) (E : CtlPost) (d : Bool) (acts : List Action), wp (findHandler g a) Q1 E e d acts S ↔ Q1 (.found pc1) d acts (S.setVm vm1)) :
    (stepThrowing e S a (.java g :: r)).Is ((S.setVm vm1).setFrames (.java { g with pc := pc1, stack := [.ref a] } :: r)) [] := by
  simp only [stepThrowing, searchFrame, vmDo]
  generalize hr : Sem.go _ e false [] S = res
  obtain ⟨as, rfl, ha⟩ := Sem.eq_ok_of hr (a := Handler.found pc1) (s' := S.setVm vm1) (acts' := []) (by simp [hf _ _ _ _])
  exact ⟨rfl, ha⟩
theorem nc_steps {tb : Tables} {target : State} {g : JFrame} {a : Addr} {pc1 : Nat} {vm1 : Vm} (h : At T g.method c below) (hf : ∀ (Q1 : Handler → Pre) (E : CtlPost) (d : Bool) (acts : List Action), wp (findHandler g a) Q1 E e d acts ((T.setTop g).pushFrame (.throwing a)) ↔ Q1 (.found pc1) d acts (((T.setTop g).pushFrame (.throwing a)).setVm vm1))
    (hrest : Steps tb e below ((T.setVm vm1).setTop { g with pc := pc1, stack := [.ref a] }) target) : Steps tb e below ((T.setTop g).pushFrame (.throwing a)) target := by
  obtain ⟨hgo, hw⟩ := h.throwing a
  refine Steps.head hgo hw ?_
  rw [stepThread_throwing (frames_entered h.top _), (nc_step hf).1]
  obtain ⟨g₀, hg⟩ := Option.isSome_iff_exists.mp h.top
  obtain ⟨r, hr⟩ := State.topJava?_eq_some.mp hg
  have hr' : (T.setVm vm1).frames = .java g₀ :: r := hr
  rw [State.setTop_of_frames _ hr'] at hrest
  rw [hr, List.tail_cons, State.pushFrame, nc_frames, State.setTop_of_frames _ hr, nc_frames]
  exact hrest
theorem nc_W {own name E : String} {ce : Cell} {q : Addr} {pc : Nat} {ls : Array Slot} {rest : List Value} (hown : s.vm.findClass own = some m.cls) (x : ExceptionTableEntry) (htab : c.exceptionTable.toList = [x]) (hx : covers x pc = true) (h0 : x.catchType ≠ 0)
    (hlink : (Cond.classLink own x.catchType name).before args s = true) (hcast : (Cond.castable E name).before args s = true) (hcell : H[q]? = some ce) (hv : ce.vm = .none) (hcl : s.vm.findClass E = some ce.cls)
    (kk : W p l e R s m args below meth c H locs cells slots Q (F0 m x.handlerPc ls [.ref q])) : vx_W p l e R s m args below meth c H locs cells slots Q (F0 m pc ls rest) q := by
  intro T hT X
  have hpl : e.platform.magicAccessors = ({} : Platform).magicAccessors := by rw [X.admits.platform]
  obtain ⟨c3, c4, hc3, hc4, hasg⟩ := Cond.castable_spec hcast
  cases Option.some.inj (hc3.symm.trans hcl)
  obtain ⟨c5, hc5, hcl5⟩ := Cond.classLink_spec hown hlink e.platform hpl
  cases Option.some.inj (hc4.symm.trans hc5)
  obtain ⟨dk, _, _, kt, hd, _, _, _, _, hkt, _, hopen⟩ := hcl5.here
  have hW' : s.WarmedH (T.vm.noted m.cls x.catchType (.cls c4)) := X.warmed.noted hd hopen (State.rightAt_cls hcl5)
  have hal := X.warmed.alike
  obtain ⟨kt', hkt', -⟩ := hal.2.2 _ _ hkt
  have hfit' : T.vm.assignable ce.cls c4 = true := by rw [hal.assignable]; exact hasg
  obtain ⟨t, a1, b1⟩ := kk (T.setVm (T.vm.noted m.cls x.catchType (.cls c4))) hT (X.noted hW')
  have hcellT : T.heap[q]? = some ce := by rw [hT]; exact hcell
  exact ⟨t, nc_steps (g := F0 m pc ls rest) X.here (nc_find (S := (T.setTop (F0 m pc ls rest)).pushFrame (.throwing q)) (meth := meth) (c := c) X.method' X.code htab hx h0 (X.warmed.classLinks hcl5) hcellT (VmData.ne_statics_of (by rw [hv]; rfl)) (Vm.classAt_of_assignable hfit' ⟨kt', hkt'⟩) ⟨kt', hkt'⟩ hfit') a1, b1⟩
end NC

theorem in69 : ∀ x, x ∈ [6, 12, 13, 14] → x ∈ [6, 7, 9, 10, 11, 12, 13, 14] := by decide
def LeF (F : Option (Nat × Nat)) (B : Nat) : Prop := ∀ f, F = some f → f.2 ≤ B
theorem LeF.or {a b : Option (Nat × Nat)} {B : Nat} (h1 : LeF a B) (h2 : LeF b B) : LeF (a.or b) B := fun f e => by
  cases a with
  | none => exact h2 f e
  | some x => exact h1 f e
theorem LeF.no {B : Nat} : LeF none B := fun f e => absurd e (by simp)
theorem LeF.one {k i B : Nat} (h : i ≤ B) : LeF (some (k, i)) B := fun f e => by cases e; exact h
theorem LeF.tok {tn k i B : Nat} {tv : Nat → Nat} (h : i ≤ B) : LeF (tokF tn tv k i) B := by
  unfold tokF
  split
  · exact LeF.no
  · exact LeF.one h
theorem LeF.num {tn i B : Nat} {tv : Nat → Nat} {a b : Int32} (h : i ≤ B) : LeF (numF tn tv a b i) B := by
  unfold numF
  split
  · split
    · exact LeF.one h
    · exact LeF.no
  · exact LeF.one h
theorem LeF.new {tn i B : Nat} {tv : Nat → Nat} {nl : NL'} (h : i ≤ B) : LeF (newF tn tv nl i) B := by
  unfold newF
  split
  · split
    · exact LeF.one h
    · exact LeF.no
  · exact LeF.one h
theorem LeF.tld {tn k i B : Nat} {tv : Nat → Nat} {nl : NL'} (h : i ≤ B) : LeF (tldF tn tv nl k i) B := by
  unfold tldF
  split
  · split
    · exact LeF.no
    · exact LeF.one h
  · exact LeF.one h
theorem LeF.numOf {tn k i B : Nat} {tv : Nat → Nat} {a b : Int32} (h : i + 1 ≤ B) : LeF (numOfF tn tv k a b i) B := LeF.or (LeF.tok (by omega)) (LeF.num h)
theorem LeF.sz {tn k i B : Nat} {tv : Nat → Nat} (h : i + 3 ≤ B) : LeF (szF tn tv k i) B := LeF.or (LeF.tok (by omega)) (LeF.or (LeF.num (by omega)) (LeF.or (LeF.num (by omega)) (LeF.num h)))
theorem pts_le {tn j : Nat} {tv : Nat → Nat} : ∀ (m k : Nat) (f : Nat × Nat), m + k = 9 → ptsF tn tv j m k = .inl f → f.2 ≤ j + 29
  | 0, k, f, _, e => absurd e (by simp [ptsF])
  | m + 1, k, f, hm, e => by
    unfold ptsF at e
    split at e
    · exact absurd e (by simp)
    · cases q : ptF tn tv j k with
      | some g =>
        rw [q] at e
        cases e
        have : LeF (ptF tn tv j k) (j + 29) := by
          unfold ptF
          refine LeF.or (LeF.num (by omega)) (LeF.or ?_ (LeF.or (LeF.tok (by omega)) (LeF.num (by omega))))
          split
          · exact LeF.one (by omega)
          · exact LeF.no
        exact this _ q
      | none => rw [q] at e; exact pts_le m (k + 1) f (by omega) e
theorem lnF_le {tn : Nat} {tv : Nat → Nat} (s : SG) : LeF (lnF tn tv s) (s.1 + 100) := by
  unfold lnF
  split
  · unfold fomF
    split
    · exact LeF.one (by omega)
    · refine LeF.or (LeF.new (by omega)) ?_
      cases q : ptsF tn tv (s.1 + 2) 9 0 with
      | inl f => exact fun g e => by cases e; have := pts_le 9 0 f rfl q; omega
      | inr np =>
        have := (pts_spec 9 0 np rfl q (by decide)).2.2.1
        exact LeF.or (LeF.numOf (by omega)) (LeF.numOf (by omega))
  split
  · unfold thgF
    split
    · exact LeF.one (by omega)
    · exact LeF.or (LeF.new (by omega)) (LeF.or (LeF.numOf (by omega)) (LeF.or (LeF.sz (by omega)) (LeF.numOf (by omega))))
  split
  · unfold boxF
    split
    · exact LeF.one (by omega)
    · exact LeF.or (LeF.new (by omega)) (LeF.or (LeF.sz (by omega)) (LeF.or (LeF.numOf (by omega)) (LeF.numOf (by omega))))
  split
  · unfold padF
    refine LeF.or (LeF.tld (by omega)) (LeF.or (LeF.numOf (by omega)) (LeF.or ?_ (LeF.or (LeF.tld (by omega)) (LeF.or (LeF.numOf (by omega)) (LeF.numOf (by omega))))))
    split
    · exact LeF.one (by omega)
    · exact LeF.no
  split
  · unfold drpF
    split
    · exact LeF.one (by omega)
    · refine LeF.or (LeF.tld (by omega)) (LeF.or (LeF.numOf (by omega)) (LeF.or (LeF.numOf (by omega)) ?_))
      split
      · exact LeF.numOf (by omega)
      · exact LeF.no
  · exact LeF.one (by omega)
theorem BkC.ln1 {h h1 : List PE} {R : Nat → Int32} {c : CN} {a ln : Nat} (x : BkC h R c a ln) (s : Sm [a] h h1) (g : h1[a]? = some (cO 0 [.ref (a + 1), .ref (a + 2), .ref (a + 3), .ref (a + 4), .int (nI c.1), .int (nI c.2.1), .int (nI c.2.2.1), .int (nI c.2.2.2), .int (nI (ln + 1)), .int 0])) : BkC h1 R c a (ln + 1) := by
  obtain ⟨ha, Q, Z, f0, f1, f2, f3, f4, P⟩ := x
  refine ⟨ha, Q, Z, g, s.at f1 (by simp), s.at f2 (by simp), s.at f3 (by simp), s.at f4 (by simp), P.kept ha (fun j z hj hb hz => s.at hz (fun q => ?_))⟩
  have e := List.mem_singleton.mp q
  subst e
  rw [f0] at hz
  cases hz
  exact absurd (show true = false from hb) (by decide)
theorem BkC.gr6 {h h1 : List PE} {R : Nat → Int32} {c : CN} {a ln : Nat} (x : BkC h R c a ln) (s : Sm [6] h h1) : BkC h1 R c a ln := by
  obtain ⟨ha, Q, Z, f0, f1, f2, f3, f4, P⟩ := x
  have n6 : ∀ j, 51 ≤ j → j ∉ [6] := fun j hj q => by have := List.mem_singleton.mp q; omega
  exact ⟨ha, Q, Z, s.at f0 (n6 _ ha), s.at f1 (n6 _ (by omega)), s.at f2 (n6 _ (by omega)), s.at f3 (n6 _ (by omega)), s.at f4 (n6 _ (by omega)), P.kept ha (fun j z hj _ hz => s.at hz (n6 j hj))⟩

set_option maxRecDepth 100000 in
set_option maxHeartbeats 4000000 in
theorem c_placeAny {G : GT} {h : List PE} {tn N i : Nat} {tv : Nat → Nat} (hTk : TkR h tn tv N) (hi : i < 2 ^ 30)  : CT G mX10_placeAt 0 0 [.ref 7, .int (nI i)] h (fun o => o = (some (.int (nI (plc' tn tv i))), h)) := by
  obtain ⟨z9, z10, z11, f7, f9, f10, f11, hR, hN⟩ := id hTk
  have hN6 := hTk.le
  show X (NF G) G mX10_placeAt 0 0 0 [(0, .ref 7), (1, .int (nI i))] [] h _
  refine x_iload_n dX10_placeAt_0 1 rfl ?_
  refine x_if_ltN (a := i) (by omega) (tgt := 19) dX10_placeAt_1 (by decide) ?_
  refine x_iload_n dX10_placeAt_4 1 rfl ?_
  refine x_aload_n dX10_placeAt_5 0 rfl ?_
  refine x_get (v := .int (nI N)) dX10_placeAt_6 fX10_23 f7 (by decide) rfl ?_
  refine x_icmp_geN (tgt := 19) (a := i) (b := N) (by omega) (by omega) dX10_placeAt_9 (by decide) (fun c_9 => ?_) (fun c_9 => ?_)
  · refine x_aload_n dX10_placeAt_19 0 rfl ?_
    refine x_get (v := .int (nI (tkM tn))) dX10_placeAt_20 fX10_27 f7 (by decide) rfl ?_
    refine x_goto (tgt := 32) dX10_placeAt_23 (by decide) ?_
    exact x_iret dX10_placeAt_32 rfl (by rw [show plc' tn tv i = tkM tn from if_neg (by have := tkP_ge hN (i - N); rw [show N + (i - N) = i by omega] at this; omega)])
  · refine x_iload_n dX10_placeAt_12 1 rfl ?_
    refine x_sipush (v := 600) dX10_placeAt_13 (by decide) ?_
    refine x_icmp_ltN (tgt := 26) (a := i) (b := 600) (by omega) (by omega) dX10_placeAt_16 (by decide) (fun c_16 => ?_) (fun c_16 => absurd (by omega) c_16)
    refine x_aload_n dX10_placeAt_26 0 rfl ?_
    refine x_get (v := .ref 10) dX10_placeAt_27 fX10_17 f7 (by decide) rfl ?_
    refine x_iload_n dX10_placeAt_30 1 rfl ?_
    refine x_ialdN (i := i) dX10_placeAt_31 f10 (by decide) (by omega) (by decide) ?_
    exact x_iret dX10_placeAt_32 rfl (by unfold plc'; rw [if_pos (hR i (by omega)).1, (hR i (by omega)).2.2.1])

set_option maxRecDepth 100000 in
set_option maxHeartbeats 4000000 in
theorem c_placeOfFault {G : GT} {h : List PE} {tn N : Nat} {tv : Nat → Nat} {f : Nat × Nat} (hTk : TkR h tn tv N) (hf : f.2 < 2 ^ 30) (hB : Bd h f) : CT G mX1_placeOfFault 1 21 [.ref 6] h (fun o => o = (some (.int (nI (plc' tn tv f.2))), h)) := by
  obtain ⟨z9, z10, z11, f7, f9, f10, f11, hR, hN⟩ := id hTk
  obtain ⟨nc, at9, v, f6⟩ := id hB
  show X (NF G) G mX1_placeOfFault 1 21 0 [(0, .ref 6)] [] h _
  refine x_aload_n dX1_placeOfFault_0 0 rfl ?_
  refine x_get (v := .ref 7) dX1_placeOfFault_1 fX1_14 f6 (by decide) rfl ?_
  refine x_aload_n dX1_placeOfFault_4 0 rfl ?_
  refine x_get (v := .int (nI (f.2))) dX1_placeOfFault_5 fX1_41 f6 (by decide) rfl ?_
  refine x_callV (rf' := 0) (rl' := 0) [.int (nI (f.2))] [] dX1_placeOfFault_8 vX1_75 Y_X10_placeAt f7 (by decide) rfl rfl (Nat.le_of_ble_eq_true rfl) (Nat.le_of_ble_eq_true rfl) (by decide) (by decide) (c_placeAny hTk hf) (fun _ _ e101 => ?_)
  cases e101
  exact x_iret dX1_placeOfFault_11 rfl rfl

set_option maxRecDepth 100000 in
set_option maxHeartbeats 4000000 in
theorem l_readBook {G : GT} {h0 : List PE} {tn N a : Nat} {tv : Nat → Nat} (hTk : TkR h0 tn tv N) (hT : TpR h0 tn tv) (htn : tn ≤ 640) (ha51 : 51 ≤ a) : ∀ (m : Nat) (s : SG) (n : Nat) (h : List PE), 601 ≤ m + s.1 → s.1 ≤ N → n ≤ s.1 → SgOk s → RdS h s.1 s.2.1 → BkC h s.2.2.2 s.2.2.1 a n → Gr a [6, 12, 13, 14] (5 * csN s.2.2.1) (27 * csN s.2.2.1) h0 h → X (NF G) G mX1_readBook 5 113 36 [(2, .ref a), (0, .ref 6), (1, .ref 4)] [] h (fun o => Gr a [6, 12, 13, 14] 230 1220 h0 o.2 ∧ match runF tn tv m s n with | .inl f => o.1 = some .null ∧ Bd o.2 f ∧ N3 o.2 ∧ f.2 ≤ 1000 | .inr x => o.1 = some (.ref a) ∧ RdS o.2 x.1.1 x.1.2.1 ∧ BkC o.2 x.1.2.2.2 x.1.2.2.1 a x.2 ∧ SgOk x.1) := by
  have hN6 := hTk.le
  obtain ⟨tb, f4, f5, e5⟩ := id hT
  intro m
  induction m with
  | zero => intro s n h hm hi; omega
  | succ m ih =>
    intro s n h hm hi hn hs hRd hB sm
    have hTk1 := hTk.gr sm ha51 (by decide)
    have g4 := sm.at f4 (by omega) (by decide)
    obtain ⟨⟨v, ft, f6⟩, hNm⟩ := id hRd
    obtain ⟨hl24, y12, y13, y14, f12, f13, f14, hy⟩ := id hNm
    obtain ⟨-, Q, Z, fa, fz1, fz2, fz3, fz4, hP⟩ := id hB
    have hcs := hs.cs
    have sm60 : Sm [6] h h := Sm.rf
    refine x_aload_n dX1_readBook_36 1 rfl ?_
    refine x_bipush (v := 22) dX1_readBook_37 (by decide) ?_
    refine x_callV (rf' := 1) (rl' := 21) [.int 22] [] dX1_readBook_39 vX1_52 Y_X1_isNow f6 (by decide) rfl rfl (Nat.le_of_ble_eq_true rfl) (Nat.le_of_ble_eq_true rfl) (by decide) (by decide) (c_isNow (k := 22) (i := s.1) hTk1 hi (by decide) f6) (fun _ _ e101 => ?_)
    cases e101
    by_cases hE : kd tn tv s.1 = 22
    · rw [if_pos hE]
      refine x_if_ne (tgt := 87) dX1_readBook_42 (by decide) (fun c_42 => ?_) (fun c_42 => absurd c_42 (by decide))
      refine x_aload_n dX1_readBook_87 2 rfl ?_
      refine x_get (v := .int (nI tn)) dX1_readBook_88 fX1_68 g4 (by decide) rfl ?_
      refine x_sipush (v := 600) dX1_readBook_91 (by decide) ?_
      refine x_icmp_leN (tgt := 109) (a := tn) (b := 600) (by omega) (by omega) dX1_readBook_94 (by decide) (fun c_94 => ?_) (fun c_94 => ?_)
      · refine x_aload_n dX1_readBook_109 0 rfl ?_
        exact x_aret (r := (some a)) dX1_readBook_110 rfl (Or.inl ⟨_, rfl⟩) ⟨Gr.wide sm (fun x _ hx => hx) (Nat.le_refl _) (by omega) (by omega), by rw [show runF tn tv (m + 1) s n = .inr (s, n) by rw [runF, if_pos hE, if_pos (by omega)]]; exact ⟨rfl, hRd, hB, hs⟩⟩
      · refine x_aload_n dX1_readBook_97 1 rfl ?_
        refine x_aload_n dX1_readBook_98 1 rfl ?_
        refine x_get (v := .int (nI (s.1))) dX1_readBook_99 fX1_35 f6 (by decide) rfl ?_
        refine x_iconst (v := 1) dX1_readBook_102 (by decide) ?_
        refine x_callV (rf' := 0) (rl' := 0) [.int (nI (s.1)), .int 1] [] dX1_readBook_103 vX1_71 Y_X1_refuse f6 (by decide) rfl rfl (Nat.le_of_ble_eq_true rfl) (Nat.le_of_ble_eq_true rfl) (by decide) (by decide) (c_refuse f6) (fun r h102 e103 => ?_)
        obtain ⟨sm105, e0, g104⟩ := e103
        cases e0
        have sm105 : Sm [6] h h102 := sm105
        have sm106 := sm60.tr (sm105.wide (by decide))
        have f107 := sm105.at fa (by first | decide | (simp; omega) | simp | omega)
        have f108 := sm105.at g4 (by first | decide | (simp; omega) | simp | omega)
        refine x_pop dX1_readBook_106 rfl ?_
        refine x_null dX1_readBook_107 ?_
        exact x_aret (r := none) dX1_readBook_108 rfl (Or.inl ⟨_, rfl⟩) ⟨Gr.wide (Gr.sm sm sm106 (fun x hx => Or.inl (by revert x; decide))) (fun x _ hx => hx) (Nat.le_refl _) (by omega) (by omega), by rw [show runF tn tv (m + 1) s n = .inl (1, s.1) by rw [runF, if_pos hE, if_neg (by omega)]]; exact ⟨rfl, ⟨_, _, _, g104⟩, ⟨_, _, _, sm106.at f12 (by decide), sm106.at f13 (by decide), sm106.at f14 (by decide)⟩, by show s.1 ≤ 1000; omega⟩⟩
    · rw [if_neg hE]
      refine x_if_ne (tgt := 87) dX1_readBook_42 (by decide) (fun c_42 => absurd (by decide) c_42) (fun c_42 => ?_)
      refine x_aload_n dX1_readBook_45 0 rfl ?_
      refine x_get (v := .int (nI n)) dX1_readBook_46 fX1_56 fa (by omega) rfl ?_
      refine x_sipush (v := 640) dX1_readBook_49 (by decide) ?_
      refine x_icmp_geN (tgt := 87) (a := n) (b := 640) (by omega) (by omega) dX1_readBook_52 (by decide) (fun c_52 => absurd c_52 (by omega)) (fun c_52 => ?_)
      refine x_aload_n dX1_readBook_55 1 rfl ?_
      refine x_aload_n dX1_readBook_56 0 rfl ?_
      have hkl := kd_le tn tv s.1
      refine x_callV (rf' := 4) (rl' := 92) [.ref a] [] dX1_readBook_57 vX1_61 Y_X1_readLine f6 (by decide) rfl rfl (Nat.le_of_ble_eq_true rfl) (Nat.le_of_ble_eq_true rfl) (by decide) (by decide) (c_readLine hTk1 hi hRd hB hs (by omega)) (fun r h109 e110 => ?_)
      obtain ⟨⟨g9, e9⟩, eg⟩ := e110
      have g9 : Gr a [6, 12, 13, 14] 5 27 h h109 := g9
      cases q : lnF tn tv s with
      | some f =>
        rw [q] at e9
        obtain ⟨e0, bd, n3⟩ := e9
        cases e0
        refine x_if_eq (tgt := 72) dX1_readBook_60 (by decide) (fun c_60 => ?_) (fun c_60 => absurd (by decide) c_60)
        refine x_null dX1_readBook_72 ?_
        exact x_aret (r := none) dX1_readBook_73 rfl (Or.inl ⟨_, rfl⟩) ⟨Gr.wide (Gr.tr sm g9 (fun x _ hx => hx) (Nat.le_refl _)) (fun x _ hx => hx) (Nat.le_refl _) (by omega) (by omega), by rw [show runF tn tv (m + 1) s n = .inl f by rw [runF, if_neg hE, q]; rfl]; exact ⟨rfl, bd, n3, by have := lnF_le s f q; omega⟩⟩
      | none =>
        rw [q] at e9
        obtain ⟨e0, hRd1, hB1⟩ := e9
        cases e0
        have eg := eg q
        have hRd1 : RdS h109 (lnS tn tv s).1 (lnS tn tv s).2.1 := hRd1
        have hB1 : BkC h109 (lnS tn tv s).2.2.2 (lnS tn tv s).2.2.1 a n := hB1
        obtain ⟨⟨v1, ft1, p6⟩, hNm1⟩ := id hRd1
        obtain ⟨-, Q1, Z1, pa, -⟩ := id hB1
        have hok := lnS_ok hs q
        have hin := lnS_in hTk hs q
        have hgt := lnS_gt (tn := tn) (tv := tv) s
        have hcs1 := hok.1.cs
        have sm2 : Gr a [6, 12, 13, 14] (5 * csN (lnS tn tv s).2.2.1) (27 * csN (lnS tn tv s).2.2.1) h0 h109 := Gr.wide (Gr.tr sm eg (fun x _ hx => hx) (Nat.le_refl _)) (fun x _ hx => hx) (Nat.le_refl _) (by have := hok.2; omega) (by have := hok.2; omega)
        have hTk2 := hTk.gr sm2 ha51 (by decide)
        refine x_if_eq (tgt := 72) dX1_readBook_60 (by decide) (fun c_60 => absurd c_60 (by decide)) (fun c_60 => ?_)
        refine x_aload_n dX1_readBook_63 1 rfl ?_
        refine x_bipush (v := 19) dX1_readBook_64 (by decide) ?_
        refine x_callV (rf' := 1) (rl' := 22) [.int 19] [] dX1_readBook_66 vX1_65 Y_X1_readToken p6 (by decide) rfl rfl (Nat.le_of_ble_eq_true rfl) (Nat.le_of_ble_eq_true rfl) (by decide) (by decide) (c_readToken (k := 19) (i := (lnS tn tv s).1) hTk2 hin (by decide) p6) (fun r h111 e112 => ?_)
        obtain ⟨sm3, e9⟩ := e112
        have sm3 : Sm [6] h109 h111 := sm3
        cases q2 : tokF tn tv 19 (lnS tn tv s).1 with
        | some f =>
          rw [q2] at e9
          obtain ⟨e0, r6⟩ := e9
          cases e0
          have ra := sm3.at pa (by simp; omega)
          refine x_if_ne (tgt := 74) dX1_readBook_69 (by decide) (fun c_69 => absurd (by decide) c_69) (fun c_69 => ?_)
          refine x_null dX1_readBook_72 ?_
          exact x_aret (r := none) dX1_readBook_73 rfl (Or.inl ⟨_, rfl⟩) ⟨Gr.wide (Gr.sm sm2 sm3 (fun x hx => Or.inl (by revert x; decide))) (fun x _ hx => hx) (Nat.le_refl _) (by omega) (by omega), by rw [show runF tn tv (m + 1) s n = .inl f by rw [runF, if_neg hE, q, q2]; rfl]; exact ⟨rfl, ⟨_, _, _, r6⟩, ⟨_, _, _, sm3.at hNm1.2.choose_spec.choose_spec.choose_spec.1 (by decide), sm3.at hNm1.2.choose_spec.choose_spec.choose_spec.2.1 (by decide), sm3.at hNm1.2.choose_spec.choose_spec.choose_spec.2.2.1 (by decide)⟩, by have := (LeF.tok (tn := tn) (tv := tv) (k := 19) (Nat.le_refl (lnS tn tv s).1)) f q2; omega⟩⟩
        | none =>
          rw [q2] at e9
          obtain ⟨e0, r6⟩ := e9
          cases e0
          have ra := sm3.at pa (by simp; omega)
          have sm9 : Sm [a] h111 h111 := Sm.rf
          refine x_if_ne (tgt := 74) dX1_readBook_69 (by decide) (fun c_69 => ?_) (fun c_69 => absurd c_69 (by decide))
          refine x_aload_n dX1_readBook_74 0 rfl ?_
          refine x_dup dX1_readBook_75 rfl ?_
          refine x_get (v := .int (nI n)) dX1_readBook_76 fX1_56 ra (by omega) rfl ?_
          refine x_iconst (v := 1) dX1_readBook_79 (by decide) ?_
          refine x_iaddN (a := n) (b := 1) dX1_readBook_80 ?_
          refine x_put (fs2 := [.ref (a + 1), .ref (a + 2), .ref (a + 3), .ref (a + 4), .int (nI ((lnS tn tv s).2.2.1.1)), .int (nI ((lnS tn tv s).2.2.1.2.1)), .int (nI ((lnS tn tv s).2.2.1.2.2.1)), .int (nI ((lnS tn tv s).2.2.1.2.2.2)), .int (nI (n + 1)), .int 0]) dX1_readBook_81 fX1_56 (Or.inl rfl) ra (by omega) rfl rfl (Nat.le_of_ble_eq_true rfl) rfl (fun h113 a114 e115 l116 s117 => ?_)
          have sm118 := Sm.put sm9 e115 l116 s117 (by simp)
          refine x_goto (tgt := 36) dX1_readBook_84 (by decide) ?_
          refine x_perm [0, 1, 2] rfl ?_
          have hB2 : BkC h113 (lnS tn tv s).2.2.2 (lnS tn tv s).2.2.1 a (n + 1) := (hB1.gr6 sm3).ln1 sm118 a114
          have n6a : ∀ x, x ∈ [a] → x ∈ [6, 12, 13, 14] ∨ a ≤ x := fun x hx => Or.inr (by have := List.mem_singleton.mp hx; omega)
          have sm5 := Gr.sm (Gr.sm sm2 sm3 (fun x hx => Or.inl (by revert x; decide))) sm118 n6a
          have hRd2 : RdS h113 ((lnS tn tv s).1 + 1) (lnS tn tv s).2.1 := ⟨⟨v1, ft1, sm118.at r6 (by simp; omega)⟩, (hNm1.sm sm3 (by decide)).sm sm118 (by simp; omega)⟩
          have I := ih ((lnS tn tv s).1 + 1, (lnS tn tv s).2) (n + 1) h113 (by show 601 ≤ m + ((lnS tn tv s).1 + 1); omega) (tok_in hTk (by decide) q2) (by show n + 1 ≤ (lnS tn tv s).1 + 1; omega) hok.1 hRd2 hB2 sm5
          refine I.weaken (fun o ho => ?_)
          rw [show runF tn tv (m + 1) s n = runF tn tv m ((lnS tn tv s).1 + 1, (lnS tn tv s).2) (n + 1) by rw [runF, if_neg hE, q, q2]; rfl]
          exact ho

/-- the reader between calls -/
def RdR (h : List PE) : Prop := ∃ (nc at9 v ft fk ln ep : Int32) (zr : Nat → Int64) (z9 z10 : Nat → Int32) (z11 y12 : Nat → Int64) (y13 y14 : Nat → Int32), h[6]? = some (cO 1 [.ref 7, .ref 12, .ref 13, .ref 14, .int nc, .int at9, .int v, .int ft, .int fk]) ∧ h[7]? = some (cO 10 [.ref 8, .ref 9, .ref 10, .ref 11, .int ln, .int ep]) ∧ h[8]? = some (cJ 17 zr) ∧ (∀ i, i < 17 → zr i = lN (k32 i)) ∧ h[9]? = some (cI 600 z9) ∧ h[10]? = some (cI 600 z10) ∧ h[11]? = some (cJ 600 z11) ∧ h[12]? = some (cJ 24 y12) ∧ h[13]? = some (cI 24 y13) ∧ h[14]? = some (cI 24 y14)

set_option maxRecDepth 100000 in
set_option maxHeartbeats 4000000 in
theorem c_readBook {G : GT} {h : List PE} {tn : Nat} {tv : Nat → Nat} {R0 : Nat → Int32} (hT : TpR h tn tv) (htn : tn ≤ 640) (hv : ∀ j, j < tn → tv j < 256) (hRr : RdR h) (hm : 51 ≤ h.length) (hR0 : R0 0 = 0 ∧ R0 1 = 0 ∧ R0 2 = 0 ∧ R0 3 = 0) : CT G mX1_readBook 5 113 [.ref 6, .ref 4] h (fun o => Gr h.length [6, 7, 9, 10, 11, 12, 13, 14] 235 1274 h o.2 ∧ RdR o.2 ∧ (∃ N, TkR o.2 tn tv N) ∧ match runF tn tv 601 (0, [], (0, 0, 0, 0), R0) 0 with | .inl f => o.1 = some .null ∧ Bd o.2 f ∧ f.2 ≤ 1000 | .inr x => o.1 = some (.ref h.length) ∧ RdS o.2 x.1.1 x.1.2.1 ∧ BkC o.2 x.1.2.2.2 x.1.2.2.1 h.length x.2 ∧ SgOk x.1) := by
  obtain ⟨nc, at9, v, ft, fk, ln, ep, zr, z9, z10, z11, y12, y13, y14, f6, f7, f8, hr, f9, f10, f11, f12, f13, f14⟩ := id hRr
  obtain ⟨tb, f4, f5, e5⟩ := id hT
  have sm0 : Gr h.length [6, 7, 9, 10, 11, 12, 13, 14] 0 0 h h := Gr.rf
  show X (NF G) G mX1_readBook 5 113 0 [(0, .ref 6), (1, .ref 4)] [] h _
  refine x_new dX1_readBook_0 nX1_1 (fun h101 q102 ea103 a104 e105 l106 s107 => ?_)
  have lm108 := sm0.2.1
  have f109 := (e105 6 (by have := lt_at f6; omega)).trans f6
  have f110 := (e105 7 (by have := lt_at f7; omega)).trans f7
  have f111 := (e105 8 (by have := lt_at f8; omega)).trans f8
  have f112 := (e105 9 (by have := lt_at f9; omega)).trans f9
  have f113 := (e105 10 (by have := lt_at f10; omega)).trans f10
  have f114 := (e105 11 (by have := lt_at f11; omega)).trans f11
  have f115 := (e105 12 (by have := lt_at f12; omega)).trans f12
  have f116 := (e105 13 (by have := lt_at f13; omega)).trans f13
  have f117 := (e105 14 (by have := lt_at f14; omega)).trans f14
  have f118 := (e105 4 (by have := lt_at f4; omega)).trans f4
  have f119 := (e105 5 (by have := lt_at f5; omega)).trans f5
  have sm120 := Gr.new sm0 ea103 e105 l106 s107
  refine x_dup dX1_readBook_3 rfl ?_
  refine x_callIN (rf' := 1) (rl' := 20) [] [.ref q102] dX1_readBook_4 vX1_47 Y_X0_init rfl rfl (Nat.le_of_ble_eq_true rfl) (Nat.le_of_ble_eq_true rfl) (by decide) (by decide) (c_X0_init (by omega) (by omega) a104) (fun r h121 e122 => ?_)
  obtain ⟨e0, l123, g125, g126, g127, g128, g129, gr124⟩ := e122
  cases e0
  have l123 : h121.length = q102 + 5 := l123
  have gr124 : Gr q102 [] 4 44 h101 h121 := gr124
  have f130 := gr124.at f109 (by have := lt_at f109; omega) (by simp)
  have f131 := gr124.at f110 (by have := lt_at f110; omega) (by simp)
  have f132 := gr124.at f111 (by have := lt_at f111; omega) (by simp)
  have f133 := gr124.at f112 (by have := lt_at f112; omega) (by simp)
  have f134 := gr124.at f113 (by have := lt_at f113; omega) (by simp)
  have f135 := gr124.at f114 (by have := lt_at f114; omega) (by simp)
  have f136 := gr124.at f115 (by have := lt_at f115; omega) (by simp)
  have f137 := gr124.at f116 (by have := lt_at f116; omega) (by simp)
  have f138 := gr124.at f117 (by have := lt_at f117; omega) (by simp)
  have f139 := gr124.at f118 (by have := lt_at f118; omega) (by simp)
  have f140 := gr124.at f119 (by have := lt_at f119; omega) (by simp)
  have sm141 := Gr.tr sm120 gr124 (by simp) (by omega)
  refine x_astore_n (lv2 := [(2, .ref q102), (0, .ref 6), (1, .ref 4)]) dX1_readBook_7 (by decide) rfl ?_
  refine x_aload_n dX1_readBook_8 1 rfl ?_
  refine x_iconst (v := 0) dX1_readBook_9 (by decide) ?_
  refine x_put (fs2 := [.ref 7, .ref 12, .ref 13, .ref 14, .int 0, .int at9, .int v, .int ft, .int fk]) dX1_readBook_10 fX1_31 (Or.inl rfl) f130 (by decide) rfl rfl (Nat.le_of_ble_eq_true rfl) rfl (fun h142 a143 e144 l145 s146 => ?_)
  have f147 := (e144 7 (by decide)).trans f131
  have f148 := (e144 8 (by decide)).trans f132
  have f149 := (e144 9 (by decide)).trans f133
  have f150 := (e144 10 (by decide)).trans f134
  have f151 := (e144 11 (by decide)).trans f135
  have f152 := (e144 12 (by decide)).trans f136
  have f153 := (e144 13 (by decide)).trans f137
  have f154 := (e144 14 (by decide)).trans f138
  have f155 := (e144 4 (by decide)).trans f139
  have f156 := (e144 5 (by decide)).trans f140
  have f157 := (e144 q102 (by omega)).trans g125
  have f158 := (e144 (q102 + 1) (by omega)).trans g126
  have f159 := (e144 (q102 + 2) (by omega)).trans g127
  have f160 := (e144 (q102 + 3) (by omega)).trans g128
  have f161 := (e144 (q102 + 4) (by omega)).trans g129
  have sm162 := Gr.put sm141 e144 l145 s146 (Or.inl (by decide))
  refine x_aload_n dX1_readBook_13 1 rfl ?_
  refine x_iconst (v := 0) dX1_readBook_14 (by decide) ?_
  refine x_put (fs2 := [.ref 7, .ref 12, .ref 13, .ref 14, .int 0, .int at9, .int v, .int ft, .int 0]) dX1_readBook_15 fX1_44 (Or.inl rfl) a143 (by decide) rfl rfl (Nat.le_of_ble_eq_true rfl) rfl (fun h163 a164 e165 l166 s167 => ?_)
  have f168 := (e165 7 (by decide)).trans f147
  have f169 := (e165 8 (by decide)).trans f148
  have f170 := (e165 9 (by decide)).trans f149
  have f171 := (e165 10 (by decide)).trans f150
  have f172 := (e165 11 (by decide)).trans f151
  have f173 := (e165 12 (by decide)).trans f152
  have f174 := (e165 13 (by decide)).trans f153
  have f175 := (e165 14 (by decide)).trans f154
  have f176 := (e165 4 (by decide)).trans f155
  have f177 := (e165 5 (by decide)).trans f156
  have f178 := (e165 q102 (by omega)).trans f157
  have f179 := (e165 (q102 + 1) (by omega)).trans f158
  have f180 := (e165 (q102 + 2) (by omega)).trans f159
  have f181 := (e165 (q102 + 3) (by omega)).trans f160
  have f182 := (e165 (q102 + 4) (by omega)).trans f161
  have sm183 := Gr.put sm162 e165 l166 s167 (Or.inl (by decide))
  refine x_aload_n dX1_readBook_18 1 rfl ?_
  refine x_iconst (v := 0) dX1_readBook_19 (by decide) ?_
  refine x_put (fs2 := [.ref 7, .ref 12, .ref 13, .ref 14, .int 0, .int at9, .int v, .int 0, .int 0]) dX1_readBook_20 fX1_41 (Or.inl rfl) a164 (by decide) rfl rfl (Nat.le_of_ble_eq_true rfl) rfl (fun h184 a185 e186 l187 s188 => ?_)
  have f189 := (e186 7 (by decide)).trans f168
  have f190 := (e186 8 (by decide)).trans f169
  have f191 := (e186 9 (by decide)).trans f170
  have f192 := (e186 10 (by decide)).trans f171
  have f193 := (e186 11 (by decide)).trans f172
  have f194 := (e186 12 (by decide)).trans f173
  have f195 := (e186 13 (by decide)).trans f174
  have f196 := (e186 14 (by decide)).trans f175
  have f197 := (e186 4 (by decide)).trans f176
  have f198 := (e186 5 (by decide)).trans f177
  have f199 := (e186 q102 (by omega)).trans f178
  have f200 := (e186 (q102 + 1) (by omega)).trans f179
  have f201 := (e186 (q102 + 2) (by omega)).trans f180
  have f202 := (e186 (q102 + 3) (by omega)).trans f181
  have f203 := (e186 (q102 + 4) (by omega)).trans f182
  have sm204 := Gr.put sm183 e186 l187 s188 (Or.inl (by decide))
  refine x_aload_n dX1_readBook_23 1 rfl ?_
  refine x_iconst (v := 0) dX1_readBook_24 (by decide) ?_
  refine x_put (fs2 := [.ref 7, .ref 12, .ref 13, .ref 14, .int 0, .int 0, .int v, .int 0, .int 0]) dX1_readBook_25 fX1_35 (Or.inl rfl) a185 (by decide) rfl rfl (Nat.le_of_ble_eq_true rfl) rfl (fun h205 a206 e207 l208 s209 => ?_)
  have f210 := (e207 7 (by decide)).trans f189
  have f211 := (e207 8 (by decide)).trans f190
  have f212 := (e207 9 (by decide)).trans f191
  have f213 := (e207 10 (by decide)).trans f192
  have f214 := (e207 11 (by decide)).trans f193
  have f215 := (e207 12 (by decide)).trans f194
  have f216 := (e207 13 (by decide)).trans f195
  have f217 := (e207 14 (by decide)).trans f196
  have f218 := (e207 4 (by decide)).trans f197
  have f219 := (e207 5 (by decide)).trans f198
  have f220 := (e207 q102 (by omega)).trans f199
  have f221 := (e207 (q102 + 1) (by omega)).trans f200
  have f222 := (e207 (q102 + 2) (by omega)).trans f201
  have f223 := (e207 (q102 + 3) (by omega)).trans f202
  have f224 := (e207 (q102 + 4) (by omega)).trans f203
  have sm225 := Gr.put sm204 e207 l208 s209 (Or.inl (by decide))
  refine x_aload_n dX1_readBook_28 1 rfl ?_
  refine x_get (v := .ref 7) dX1_readBook_29 fX1_14 a206 (by decide) rfl ?_
  refine x_aload_n dX1_readBook_32 2 rfl ?_
  refine x_callV (rf' := 2) (rl' := 54) [.ref 4] [] dX1_readBook_33 vX1_48 Y_X10_scan f210 (by decide) rfl rfl (Nat.le_of_ble_eq_true rfl) (Nat.le_of_ble_eq_true rfl) (by decide) (by decide) (c_scan (h0 := h205) ⟨tb, f218, f219, e5⟩ htn hv hr f211 f210 f212 f213 f214) (fun r h226 e227 => ?_)
  obtain ⟨e0, sm8, N, hTk⟩ := e227
  cases e0
  have sm8 : Sm [7, 9, 10, 11] h205 h226 := sm8
  have hTk : TkR h226 tn tv N := hTk
  have f228 := sm8.at a206 (by first | decide | (simp; omega) | simp | omega)
  have f229 := sm8.at f211 (by first | decide | (simp; omega) | simp | omega)
  have f230 := sm8.at f215 (by first | decide | (simp; omega) | simp | omega)
  have f231 := sm8.at f216 (by first | decide | (simp; omega) | simp | omega)
  have f232 := sm8.at f217 (by first | decide | (simp; omega) | simp | omega)
  have f233 := sm8.at f218 (by first | decide | (simp; omega) | simp | omega)
  have f234 := sm8.at f219 (by first | decide | (simp; omega) | simp | omega)
  have f235 := sm8.at f220 (by first | decide | (simp; omega) | simp | omega)
  have f236 := sm8.at f221 (by first | decide | (simp; omega) | simp | omega)
  have f237 := sm8.at f222 (by first | decide | (simp; omega) | simp | omega)
  have f238 := sm8.at f223 (by first | decide | (simp; omega) | simp | omega)
  have f239 := sm8.at f224 (by first | decide | (simp; omega) | simp | omega)
  have sm240 := Gr.sm sm225 sm8 (fun x hx => Or.inl (by revert x; decide))
  have hql : q102 = h.length := by omega
  have hB0 : BkC h226 R0 (0, 0, 0, 0) q102 0 := ⟨by omega, (fun _ => 0, fun _ => 0, fun _ => 0, fun _ => 0), (fun _ => none, fun _ => none, fun _ => none, fun _ => none), f235, f236, f237, f238, f239, fun k hk => absurd hk (Nat.not_lt_zero k), fun k hk => absurd hk (Nat.not_lt_zero k), fun k k2 _ hk => absurd hk (Nat.not_lt_zero k2), fun k hk => absurd hk (Nat.not_lt_zero k), fun k hk => absurd hk (Nat.not_lt_zero k)⟩
  have hRd0 : RdS h226 0 [] := ⟨⟨v, 0, f228⟩, by decide, y12, y13, y14, f230, f231, f232, fun e he => absurd he (Nat.not_lt_zero e)⟩
  have hok0 : SgOk (0, [], (0, 0, 0, 0), R0) := ⟨⟨hR0.1, Nat.zero_le _, hR0.2.1, Nat.zero_le _, hR0.2.2.1, Nat.zero_le _, hR0.2.2.2, Nat.zero_le _, fun k hk => absurd hk (Nat.not_lt_zero k), fun k hk => absurd hk (Nat.not_lt_zero k), fun k hk => absurd hk (Nat.not_lt_zero k), fun k hk => absurd hk (Nat.not_lt_zero k)⟩, rfl, fun e he => absurd he (Nat.not_lt_zero e)⟩
  refine x_perm [0, 1, 2] rfl ?_
  refine (l_readBook (h0 := h226) hTk ⟨tb, f233, f234, e5⟩ htn (show 51 ≤ q102 by omega) 601 (0, [], (0, 0, 0, 0), R0) 0 h226 (Nat.le_refl _) (Nat.zero_le _) (Nat.le_refl _) hok0 hRd0 hB0 Gr.rf).weaken (fun o ho => ?_)
  obtain ⟨o1, o2⟩ := ho
  have G1 : Gr h.length [6, 7, 9, 10, 11, 12, 13, 14] 235 1274 h o.2 := Gr.wide (Gr.tr sm240 o1 (fun x _ hx => in69 x hx) (by omega)) (fun x _ hx => hx) (Nat.le_refl _) (by decide) (by decide)
  have hTk9 := hTk.gr o1 (by omega) (by decide)
  have f89 := o1.at f229 (by omega) (by decide)
  obtain ⟨u9, u10, u11, k7, k9, k10, k11, -, -⟩ := id hTk9
  cases hrun : runF tn tv 601 (0, [], (0, 0, 0, 0), R0) 0 with
  | inl f =>
    rw [hrun] at o2
    obtain ⟨a1, a2, ⟨x12, x13, x14, a12, a13, a14⟩, a3⟩ := o2
    obtain ⟨nc9, at8, v9, a6⟩ := id a2
    exact ⟨G1, ⟨_, _, _, _, _, _, _, zr, u9, u10, u11, x12, x13, x14, a6, k7, f89, hr, k9, k10, k11, a12, a13, a14⟩, ⟨N, hTk9⟩, a1, a2, a3⟩
  | inr x =>
    rw [hrun] at o2
    obtain ⟨a1, a2, a3, a4⟩ := o2
    obtain ⟨⟨v9, ft9, a6⟩, -, x12, x13, x14, a12, a13, a14, -⟩ := id a2
    rw [hql] at a1 a3
    exact ⟨G1, ⟨_, _, _, _, _, _, _, zr, u9, u10, u11, x12, x13, x14, a6, k7, f89, hr, k9, k10, k11, a12, a13, a14⟩, ⟨N, hTk9⟩, a1, a2, a3, a4⟩

theorem BkC.book {h : List PE} {R : Nat → Int32} {c : CN} {a ln : Nat} {day : Int32} (x : BkC h R c a ln) {h1 : List PE} {L : List Nat} (s : Sm L h h1) (hL : ∀ j, j ∈ L → j < 51 ∨ j = a) (g : h1[a]? = some (cO 0 [.ref (a + 1), .ref (a + 2), .ref (a + 3), .ref (a + 4), .int (nI c.1), .int (nI c.2.1), .int (nI c.2.2.1), .int (nI c.2.2.2), .int (nI ln), .int day])) : BookAt h1 R c.1 c.2.1 c.2.2.1 c.2.2.2 a day := by
  obtain ⟨ha, Q, Z, f0, f1, f2, f3, f4, P⟩ := x
  have nL : ∀ j, 51 ≤ j → j ≠ a → j ∉ L := fun j hj hn q => by have := hL j q; omega
  have e : KpT h h1 := fun j z hj hb hz => s.at hz (nL j hj (fun e => by
    subst e
    rw [f0] at hz
    cases hz
    exact absurd (show true = false from hb) (by decide)))
  have P := P.kept ha e
  obtain ⟨p1, p2, p3, p4, p5⟩ := P
  refine ⟨by omega, a + 1, a + 2, a + 3, a + 4, Q.1, Q.2.1, Q.2.2.1, Q.2.2.2, Z.1, Z.2.1, Z.2.2.1, Z.2.2.2, nI ln, by omega, by omega, by omega, by omega, by omega, g, s.at f1 (nL _ (by omega) (by omega)), s.at f2 (nL _ (by omega) (by omega)), s.at f3 (nL _ (by omega) (by omega)), s.at f4 (nL _ (by omega) (by omega)), p1, fun k hk => ⟨(p2 k hk).1, ?_⟩, p4, p5⟩
  obtain ⟨z1, z2, z3, z4, b1, b2, b3, b4, b5, b6, b7⟩ := (p2 k hk).2.2
  have := (p2 k hk).2.1
  exact ⟨by omega, _, _, _, _, z1, z2, z3, z4, by omega, by omega, by omega, by omega, b1, b2, b3, b4, b5, b6, b7⟩
theorem Gr.kb {h h1 : List PE} {L : List Nat} {a b : Nat} (g : Gr h.length L a b h h1) (hL : ∀ j, j ∈ L → j < 16) : ∀ j c, (51 ≤ j ∨ j = 16 ∨ j = 17 ∨ j = 18 ∨ j = 19 ∨ j = 20) → h[j]? = some c → h1[j]? = some c := fun j c hj hc => g.at hc (lt_at hc) (fun q => by have := hL j q; omega)
theorem RdR.kept {h h1 : List PE} (x : RdR h) (e : ∀ j, 6 ≤ j → j ≤ 14 → h1[j]? = h[j]?) : RdR h1 := by
  obtain ⟨nc, at9, v, ft, fk, ln, ep, zr, z9, z10, z11, y12, y13, y14, f6, f7, f8, hr, f9, f10, f11, f12, f13, f14⟩ := x
  exact ⟨nc, at9, v, ft, fk, ln, ep, zr, z9, z10, z11, y12, y13, y14, (e 6 (by decide) (by decide)).trans f6, (e 7 (by decide) (by decide)).trans f7, (e 8 (by decide) (by decide)).trans f8, hr, (e 9 (by decide) (by decide)).trans f9, (e 10 (by decide) (by decide)).trans f10, (e 11 (by decide) (by decide)).trans f11, (e 12 (by decide) (by decide)).trans f12, (e 13 (by decide) (by decide)).trans f13, (e 14 (by decide) (by decide)).trans f14⟩

set_option maxRecDepth 100000 in
set_option maxHeartbeats 4000000 in
theorem c_keepN {G : GT} {h : List PE} : CT G mX11_keepBook 0 0 [.ref 3, .null] h (fun o => o = (none, h)) := by
  show X (NF G) G mX11_keepBook 0 0 0 [(0, .ref 3), (1, .null)] [] h _
  refine x_aload_nN dX11_keepBook_0 1 rfl ?_
  refine x_ifnullN (tgt := 44) dX11_keepBook_1 (by decide) ?_
  exact x_vret dX11_keepBook_44 rfl rfl

set_option maxRecDepth 100000 in
set_option maxHeartbeats 4000000 in
theorem c_keepS {G : GT} {h : List PE} {n td a : Nat} {fk br n0 n1 n2 n3 ln dy : Int32} {zb : Nat → Option Nat} (hn : n < 20) (ha : 51 ≤ a) (f3 : h[3]? = some (cO 11 [.ref 4, .ref 6, .ref 15, .ref 16, .ref 21, .ref 25, .ref 32, .ref 35, .int (nI n), .int (nI td), .int fk, .int br])) (f15 : h[15]? = some (cR 8 20 zb)) (fa : h[a]? = some (cO 0 [.ref (a + 1), .ref (a + 2), .ref (a + 3), .ref (a + 4), .int n0, .int n1, .int n2, .int n3, .int ln, .int dy])) : CT G mX11_keepBook 0 0 [.ref 3, .ref a] h (fun o => o.1 = none ∧ Sm [3, 15, a] h o.2 ∧ o.2[3]? = some (cO 11 [.ref 4, .ref 6, .ref 15, .ref 16, .ref 21, .ref 25, .ref 32, .ref 35, .int (nI (n + 1)), .int (nI td), .int fk, .int br]) ∧ o.2[15]? = some (cR 8 20 (va_up zb n (some a))) ∧ o.2[a]? = some (cO 0 [.ref (a + 1), .ref (a + 2), .ref (a + 3), .ref (a + 4), .int n0, .int n1, .int n2, .int n3, .int ln, .int (nI td)])) := by
  have sm0 : Sm [3, 15, a] h h := Sm.rf
  show X (NF G) G mX11_keepBook 0 0 0 [(0, .ref 3), (1, .ref a)] [] h _
  refine x_aload_n dX11_keepBook_0 1 rfl ?_
  refine x_ifnull dX11_keepBook_1 ?_
  refine x_aload_n dX11_keepBook_4 0 rfl ?_
  refine x_get (v := .int (nI n)) dX11_keepBook_5 fX11_59 f3 (by decide) rfl ?_
  refine x_aload_n dX11_keepBook_8 0 rfl ?_
  refine x_get (v := .ref 15) dX11_keepBook_9 fX11_25 f3 (by decide) rfl ?_
  refine x_alen (v := 20) rfl dX11_keepBook_12 f15 (by decide) rfl ?_
  refine x_icmp_geN (tgt := 44) (a := n) (b := 20) (by omega) (by omega) dX11_keepBook_13 (by decide) (fun c_13 => absurd c_13 (by omega)) (fun c_13 => ?_)
  refine x_aload_n dX11_keepBook_16 1 rfl ?_
  refine x_aload_n dX11_keepBook_17 0 rfl ?_
  refine x_get (v := .int (nI td)) dX11_keepBook_18 fX11_63 f3 (by decide) rfl ?_
  refine x_put (fs2 := [.ref (a + 1), .ref (a + 2), .ref (a + 3), .ref (a + 4), .int n0, .int n1, .int n2, .int n3, .int ln, .int (nI td)]) dX11_keepBook_21 fX11_267 (Or.inl rfl) fa (by omega) rfl rfl (Nat.le_of_ble_eq_true rfl) rfl (fun h101 a102 e103 l104 s105 => ?_)
  have f106 := (e103 3 (by omega)).trans f3
  have f107 := (e103 15 (by omega)).trans f15
  have sm108 := Sm.put sm0 e103 l104 s105 (by simp)
  refine x_aload_n dX11_keepBook_24 0 rfl ?_
  refine x_get (v := .ref 15) dX11_keepBook_25 fX11_25 f106 (by decide) rfl ?_
  refine x_aload_n dX11_keepBook_28 0 rfl ?_
  refine x_get (v := .int (nI n)) dX11_keepBook_29 fX11_59 f106 (by decide) rfl ?_
  refine x_aload_n dX11_keepBook_32 1 rfl ?_
  refine x_aastV (i := n) rfl rfl dX11_keepBook_33 f107 (by decide) a102 (by omega) (by omega) (by decide) (fun h109 a110 e111 l112 s113 => ?_)
  have f114 := (e111 3 (by decide)).trans f106
  have f115 := (e111 a (by omega)).trans a102
  have sm116 := Sm.put sm108 e111 l112 s113 (by simp)
  refine x_aload_n dX11_keepBook_34 0 rfl ?_
  refine x_dup dX11_keepBook_35 rfl ?_
  refine x_get (v := .int (nI n)) dX11_keepBook_36 fX11_59 f114 (by decide) rfl ?_
  refine x_iconst (v := 1) dX11_keepBook_39 (by decide) ?_
  refine x_iaddN (a := n) (b := 1) dX11_keepBook_40 ?_
  refine x_put (fs2 := [.ref 4, .ref 6, .ref 15, .ref 16, .ref 21, .ref 25, .ref 32, .ref 35, .int (nI (n + 1)), .int (nI td), .int fk, .int br]) dX11_keepBook_41 fX11_59 (Or.inl rfl) f114 (by decide) rfl rfl (Nat.le_of_ble_eq_true rfl) rfl (fun h117 a118 e119 l120 s121 => ?_)
  have f122 := (e119 15 (by decide)).trans a110
  have f123 := (e119 a (by omega)).trans f115
  have sm124 := Sm.put sm116 e119 l120 s121 (by simp)
  exact x_vret dX11_keepBook_44 rfl ⟨rfl, sm124, a118, f122, f123⟩

theorem in9b : ∀ x, x ∈ [6, 7, 9, 10, 11, 12, 13, 14] → x ∈ [3, 4, 6, 7, 9, 10, 11, 12, 13, 14, 15] := by decide
theorem lb16 : ∀ j, j ∈ [3, 4, 6, 7, 9, 10, 11, 12, 13, 14, 15] → j < 16 := by decide
theorem BkR.add {h h1 : List PE} {n : Nat} {dy : Nat → Int32} {rc : Nat → Nat → Int32} {ct : Nat → CN} {zb : Nat → Option Nat} {bq : Nat → Nat} {a : Nat} {R : Nat → Int32} {c : CN} {day : Int32} (hbs : ∀ k, k < n → zb k = some (bq k) ∧ 51 ≤ bq k ∧ BookAt h (rc k) (ct k).1 (ct k).2.1 (ct k).2.2.1 (ct k).2.2.2 (bq k) (dy k)) (hb0 : BookAt h (fun _ => 0) 0 0 0 0 16 0) (e : ∀ j c, (51 ≤ j ∨ j = 16 ∨ j = 17 ∨ j = 18 ∨ j = 19 ∨ j = 20) → h[j]? = some c → h1[j]? = some c) (g15 : h1[15]? = some (cR 8 20 (va_up zb n (some a)))) (ha : 51 ≤ a) (hB : BookAt h1 R c.1 c.2.1 c.2.2.1 c.2.2.2 a day) : BkR h1 (n + 1) (va_up dy n day) (va_up rc n R) (va_up ct n c) := by
  refine ⟨_, va_up bq n a, g15, fun k hk => ?_, hb0.kept e⟩
  by_cases q : k = n
  · subst q
    rw [va_up_s, va_up_s, va_up_s, va_up_s, va_up_s]
    exact ⟨rfl, ha, hB⟩
  · rw [va_up_n q, va_up_n q, va_up_n q, va_up_n q, va_up_n q]
    exact ⟨(hbs k (by omega)).1, (hbs k (by omega)).2.1, (hbs k (by omega)).2.2.kept e⟩

theorem smB {h1 h2 h3 h4 : List PE} {a : Nat} (n1 : ∀ j, j ≠ 3 → h2[j]? = h1[j]?) (n2 : ∀ j, j ≠ 4 → h4[j]? = h3[j]?) (s : Sm [3, 15, a] h2 h3) (l1 : h2.length = h1.length ∧ g_s h2 = g_s h1) (l2 : h4.length = h3.length ∧ g_s h4 = g_s h3) : Sm [3, 4, 15, a] h1 h4 := by
  refine ⟨by have := s.1; omega, by have := s.2.1; omega, fun j hj => ?_⟩
  simp only [List.mem_cons, List.not_mem_nil, or_false, not_or] at hj
  exact (n2 j hj.2.1).trans ((s.2.2 j (by simp only [List.mem_cons, List.not_mem_nil, or_false, not_or]; exact ⟨hj.1, hj.2.2⟩)).trans (n1 j hj.1))

set_option maxRecDepth 100000 in
set_option maxHeartbeats 4000000 in
theorem c_book {G : GT} {h : List PE} {n td tn : Nat} {tv : Nat → Nat} {dy : Nat → Int32} {rc : Nat → Nat → Int32} {ct : Nat → CN} {fk br : Int32} {R0 : Nat → Int32} (hfa : FaR h n td fk br) (hbk : BkR h n dy rc ct) (hn : n ≤ 20) (hT : TpR h tn tv) (htn : tn ≤ 640) (hv : ∀ j, j < tn → tv j < 256) (hRr : RdR h) (hm : 51 ≤ h.length) (hR0 : R0 0 = 0 ∧ R0 1 = 0 ∧ R0 2 = 0 ∧ R0 3 = 0) : CT G mX11_book 6 135 [.ref 3] h (fun o => Gr h.length [3, 4, 6, 7, 9, 10, 11, 12, 13, 14, 15] 235 1274 h o.2 ∧ RdR o.2 ∧ TpR o.2 0 tv ∧ if 20 ≤ n then o.1 = some (.int (-1000)) ∧ FaR o.2 n td fk br ∧ BkR o.2 n dy rc ct else match runF tn tv 601 (0, [], (0, 0, 0, 0), R0) 0 with | .inl f => o.1 = some (.int (-1 - nI (plc' tn tv f.2))) ∧ FaR o.2 n td (nI f.1) br ∧ BkR o.2 n dy rc ct | .inr x => o.1 = some (.int (nI x.2)) ∧ FaR o.2 (n + 1) td 0 br ∧ BkR o.2 (n + 1) (va_up dy n (nI td)) (va_up rc n x.1.2.2.2) (va_up ct n x.1.2.2.1) ∧ SgOk x.1) := by
  have f3 : h[3]? = some (cO 11 [.ref 4, .ref 6, .ref 15, .ref 16, .ref 21, .ref 25, .ref 32, .ref 35, .int (nI n), .int (nI td), .int fk, .int br]) := hfa
  obtain ⟨zb, bq, f15, hbs, hb0⟩ := id hbk
  obtain ⟨tb, f4, f5, e5⟩ := id hT
  have sm0 : Gr h.length [3, 4, 6, 7, 9, 10, 11, 12, 13, 14, 15] 0 0 h h := Gr.rf
  obtain ⟨nc, at9, v, ft, fk9, ln, ep, zr, z9, z10, z11, y12, y13, y14, f6, f7, f8, hr, f9, f10, f11, f12, f13, f14⟩ := id hRr
  show X (NF G) G mX11_book 6 135 0 [(0, .ref 3)] [] h _
  refine x_sipush (v := (-1000)) dX11_book_0 (by decide) ?_
  refine x_istore_n (lv2 := [(1, .int (-1000)), (0, .ref 3)]) dX11_book_3 (by decide) rfl ?_
  refine x_aload_n dX11_book_4 1 rfl ?_
  refine x_get (v := .int (nI n)) dX11_book_5 fX11_59 f3 (by decide) rfl ?_
  refine x_bipush (v := 20) dX11_book_8 (by decide) ?_
  refine x_icmp_geN (tgt := 62) (a := n) (b := 20) (by omega) (by omega) dX11_book_10 (by decide) (fun c_10 => ?_) (fun c_10 => ?_)
  · refine x_aload_n dX11_book_62 1 rfl ?_
    refine x_get (v := .ref 4) dX11_book_63 fX11_10 f3 (by decide) rfl ?_
    refine x_iconst (v := 0) dX11_book_66 (by decide) ?_
    refine x_put (fs2 := [.ref 5, .int 0]) dX11_book_67 fX11_72 (Or.inl rfl) f4 (by decide) rfl rfl (Nat.le_of_ble_eq_true rfl) rfl (fun h101 a102 e103 l104 s105 => ?_)
    have f106 := (e103 3 (by decide)).trans f3
    have f107 := (e103 5 (by decide)).trans f5
    have f108 := (e103 6 (by decide)).trans f6
    have f109 := (e103 15 (by decide)).trans f15
    have sm110 := Gr.put sm0 e103 l104 s105 (Or.inl (by decide))
    refine x_iload_n dX11_book_70 0 rfl ?_
    exact x_iret dX11_book_71 rfl ⟨Gr.wide sm110 (fun x _ hx => hx) (Nat.le_refl _) (by decide) (by decide), hRr.kept (fun j h1 h2 => e103 j (by omega)), ⟨tb, a102, f107, fun j hj => absurd hj (Nat.not_lt_zero j)⟩, by rw [if_pos (by omega)]; exact ⟨rfl, f106, hbk.kept (e103 15 (by decide)) (fun j c hj hc => (e103 j (by omega)).trans hc)⟩⟩
  · refine x_aload_n dX11_book_13 1 rfl ?_
    refine x_get (v := .ref 6) dX11_book_14 fX11_19 f3 (by decide) rfl ?_
    refine x_aload_n dX11_book_17 1 rfl ?_
    refine x_get (v := .ref 4) dX11_book_18 fX11_10 f3 (by decide) rfl ?_
    refine x_callV (rf' := 5) (rl' := 113) [.ref 4] [] dX11_book_21 vX11_79 Y_X1_readBook f6 (by decide) rfl rfl (Nat.le_of_ble_eq_true rfl) (Nat.le_of_ble_eq_true rfl) (by decide) (by decide) (c_readBook (R0 := R0) hT htn hv hRr hm hR0) (fun r h111 e112 => ?_)
    obtain ⟨G1, hRr1, ⟨N, hTk⟩, e9⟩ := e112
    have G1 : Gr h.length [6, 7, 9, 10, 11, 12, 13, 14] 235 1274 h h111 := G1
    have hRr1 : RdR h111 := hRr1
    have hTk : TkR h111 tn tv N := hTk
    have G2 : Gr h.length [3, 4, 6, 7, 9, 10, 11, 12, 13, 14, 15] 235 1274 h h111 := Gr.wide G1 (fun x _ hx => in9b x hx) (Nat.le_refl _) (Nat.le_refl _) (Nat.le_refl _)
    have g3 := G1.at f3 (by omega) (by decide)
    have g4 := G1.at f4 (by omega) (by decide)
    have g5 := G1.at f5 (by omega) (by decide)
    have g15 := G1.at f15 (by omega) (by decide)
    have lh := G1.2.1
    cases hrun : runF tn tv 601 (0, [], (0, 0, 0, 0), R0) 0 with
    | inl f =>
      rw [hrun] at e9
      obtain ⟨e0, bd, hf⟩ := e9
      cases e0
      obtain ⟨nc9, at8, v9, p6⟩ := id bd
      refine x_astore_nN (lv2 := [(2, .null), (1, .int (-1000)), (0, .ref 3)]) dX11_book_24 (by decide) rfl ?_
      refine x_aload_n dX11_book_25 2 rfl ?_
      refine x_aload_n dX11_book_26 2 rfl ?_
      refine x_get (v := .ref 6) dX11_book_27 fX11_19 g3 (by decide) rfl ?_
      refine x_get (v := .int (nI (f.1))) dX11_book_30 fX11_83 p6 (by decide) rfl ?_
      refine x_put (fs2 := [.ref 4, .ref 6, .ref 15, .ref 16, .ref 21, .ref 25, .ref 32, .ref 35, .int (nI n), .int (nI td), .int (nI (f.1)), .int br]) dX11_book_33 fX11_66 (Or.inl rfl) g3 (by decide) rfl rfl (Nat.le_of_ble_eq_true rfl) rfl (fun h113 a114 e115 l116 s117 => ?_)
      have f118 := (e115 4 (by decide)).trans g4
      have f119 := (e115 5 (by decide)).trans g5
      have f120 := (e115 15 (by decide)).trans g15
      have f121 := (e115 6 (by decide)).trans p6
      have sm122 := Gr.put G2 e115 l116 s117 (Or.inl (by decide))
      refine x_aload_nN dX11_book_36 0 rfl ?_
      refine x_ifnonnullN dX11_book_37 ?_
      refine x_iconst (v := (-1)) dX11_book_40 (by decide) ?_
      refine x_aload_n dX11_book_41 2 rfl ?_
      refine x_get (v := .ref 6) dX11_book_42 fX11_19 a114 (by decide) rfl ?_
      refine x_callV (rf' := 1) (rl' := 21) [] [.int (-1)] dX11_book_45 vX11_84 Y_X1_placeOfFault f121 (by decide) rfl rfl (Nat.le_of_ble_eq_true rfl) (Nat.le_of_ble_eq_true rfl) (by decide) (by decide) (c_placeOfFault (hTk.kept (fun j hj => (fun j (hj : j ≠ 3) => e115 j hj) j (by revert j; decide))) (by omega) ⟨_, _, _, f121⟩) (fun _ _ e123 => ?_)
      cases e123
      refine x_isub dX11_book_48 ?_
      refine x_goto (tgt := 56) dX11_book_49 (by decide) ?_
      refine x_istore_n (lv2 := [(1, .int ((-1) - (nI (plc' tn tv (f.2))))), (2, .null), (0, .ref 3)]) dX11_book_56 (by decide) rfl ?_
      refine x_aload_n dX11_book_57 2 rfl ?_
      refine x_aload_nN dX11_book_58 1 rfl ?_
      refine x_callV (rf' := 0) (rl' := 0) [.null] [] dX11_book_59 vX11_91 Y_X11_keepBook a114 (by decide) rfl rfl (Nat.le_of_ble_eq_true rfl) (Nat.le_of_ble_eq_true rfl) (by decide) (by decide) c_keepN (fun _ _ e124 => ?_)
      cases e124
      refine x_aload_n dX11_book_62 2 rfl ?_
      refine x_get (v := .ref 4) dX11_book_63 fX11_10 a114 (by decide) rfl ?_
      refine x_iconst (v := 0) dX11_book_66 (by decide) ?_
      refine x_put (fs2 := [.ref 5, .int 0]) dX11_book_67 fX11_72 (Or.inl rfl) f118 (by decide) rfl rfl (Nat.le_of_ble_eq_true rfl) rfl (fun h125 a126 e127 l128 s129 => ?_)
      have f130 := (e127 3 (by decide)).trans a114
      have f131 := (e127 5 (by decide)).trans f119
      have f132 := (e127 15 (by decide)).trans f120
      have f133 := (e127 6 (by decide)).trans f121
      have sm134 := Gr.put sm122 e127 l128 s129 (Or.inl (by decide))
      refine x_iload_n dX11_book_70 0 rfl ?_
      exact x_iret dX11_book_71 rfl ⟨sm134, hRr1.kept (fun j h1 h2 => (e127 j (by omega)).trans (e115 j (by omega))), ⟨tb, a126, f131, fun j hj => absurd hj (Nat.not_lt_zero j)⟩, by rw [if_neg (by omega)]; exact ⟨rfl, f130, hbk.kept ((e127 15 (by decide)).trans ((e115 15 (by decide)).trans (G1.1 15 (by omega) (by decide)))) (Gr.kb sm134 lb16)⟩⟩
    | inr x =>
      rw [hrun] at e9
      obtain ⟨e0, rds, bc, ok⟩ := e9
      cases e0
      have bc : BkC h111 x.1.2.2.2 x.1.2.2.1 h.length x.2 := bc
      obtain ⟨⟨v9, ft9, p6⟩, -⟩ := id rds
      obtain ⟨a, hae⟩ : ∃ a, a = h.length := ⟨_, rfl⟩
      rw [← hae] at bc
      obtain ⟨ha51, Q, Z, pa, q1, q2, q3, q4, -⟩ := id bc
      rw [← hae]
      refine x_astore_n (lv2 := [(2, .ref a), (1, .int (-1000)), (0, .ref 3)]) dX11_book_24 (by decide) rfl ?_
      refine x_aload_n dX11_book_25 2 rfl ?_
      refine x_aload_n dX11_book_26 2 rfl ?_
      refine x_get (v := .ref 6) dX11_book_27 fX11_19 g3 (by decide) rfl ?_
      refine x_get (v := .int 0) dX11_book_30 fX11_83 p6 (by decide) rfl ?_
      refine x_put (fs2 := [.ref 4, .ref 6, .ref 15, .ref 16, .ref 21, .ref 25, .ref 32, .ref 35, .int (nI n), .int (nI td), .int 0, .int br]) dX11_book_33 fX11_66 (Or.inl rfl) g3 (by decide) rfl rfl (Nat.le_of_ble_eq_true rfl) rfl (fun h135 a136 e137 l138 s139 => ?_)
      have f140 := (e137 4 (by decide)).trans g4
      have f141 := (e137 5 (by decide)).trans g5
      have f142 := (e137 15 (by decide)).trans g15
      have f143 := (e137 6 (by decide)).trans p6
      have f144 := (e137 a (by omega)).trans pa
      have sm145 := Gr.put G2 e137 l138 s139 (Or.inl (by decide))
      refine x_aload_n dX11_book_36 0 rfl ?_
      refine x_ifnonnull (tgt := 52) dX11_book_37 (by decide) ?_
      refine x_aload_n dX11_book_52 0 rfl ?_
      refine x_get (v := .int (nI (x.2))) dX11_book_53 fX11_88 f144 (by omega) rfl ?_
      refine x_istore_n (lv2 := [(1, .int (nI (x.2))), (2, .ref a), (0, .ref 3)]) dX11_book_56 (by decide) rfl ?_
      refine x_aload_n dX11_book_57 2 rfl ?_
      refine x_aload_n dX11_book_58 1 rfl ?_
      refine x_callV (rf' := 0) (rl' := 0) [.ref a] [] dX11_book_59 vX11_91 Y_X11_keepBook a136 (by decide) rfl rfl (Nat.le_of_ble_eq_true rfl) (Nat.le_of_ble_eq_true rfl) (by decide) (by decide) (c_keepS (by omega) ha51 a136 f142 f144) (fun r h146 e147 => ?_)
      obtain ⟨e0, smk, k3, k15, ka⟩ := e147
      cases e0
      have smk : Sm [3, 15, a] h135 h146 := smk
      have f148 := smk.at f140 (by first | decide | (simp; omega) | simp | omega)
      have f149 := smk.at f141 (by first | decide | (simp; omega) | simp | omega)
      have f150 := smk.at f143 (by first | decide | (simp; omega) | simp | omega)
      have sm151 := Gr.sm sm145 smk (fun y hy => (List.mem_cons.mp hy).elim (fun e => Or.inl (by subst e; decide)) (fun hy => (List.mem_cons.mp hy).elim (fun e => Or.inl (by subst e; decide)) (fun hy => Or.inr (by have := List.mem_singleton.mp hy; omega))))
      refine x_aload_n dX11_book_62 2 rfl ?_
      refine x_get (v := .ref 4) dX11_book_63 fX11_10 k3 (by decide) rfl ?_
      refine x_iconst (v := 0) dX11_book_66 (by decide) ?_
      refine x_put (fs2 := [.ref 5, .int 0]) dX11_book_67 fX11_72 (Or.inl rfl) f148 (by decide) rfl rfl (Nat.le_of_ble_eq_true rfl) rfl (fun h152 a153 e154 l155 s156 => ?_)
      have f157 := (e154 3 (by decide)).trans k3
      have f158 := (e154 5 (by decide)).trans f149
      have f159 := (e154 15 (by decide)).trans k15
      have f160 := (e154 6 (by decide)).trans f150
      have f161 := (e154 a (by omega)).trans ka
      have sm162 := Gr.put sm151 e154 l155 s156 (Or.inl (by decide))
      refine x_iload_n dX11_book_70 0 rfl ?_
      exact x_iret dX11_book_71 rfl ⟨(by rw [hae]; exact sm162), hRr1.kept (fun j h1 h2 => (e154 j (by omega)).trans ((smk.2.2 j (by simp; omega)).trans (e137 j (by omega)))), ⟨tb, a153, f158, fun j hj => absurd hj (Nat.not_lt_zero j)⟩, by rw [if_neg (by omega)]; exact ⟨rfl, f157, BkR.add hbs hb0 (Gr.kb sm162 lb16) f159 ha51 (bc.book (L := [3, 4, 15, a]) (day := nI td) (smB e137 e154 smk ⟨by omega, by omega⟩ ⟨by omega, by omega⟩) (by simp) f161), ok⟩⟩

/-- cells of a THING's PADS -/
def pdT (z : PE) : Bool := match z with
  | .inl x => decide (x.2.1 = 6)
  | .inr _ => false
def KpU (h h1 : List PE) : Prop := ∀ (j : Nat) (z : PE), pdT z = false → h[j]? = some z → h1[j]? = some z
theorem FoamAt.keptU {h h1 : List PE} {R : Nat → Int32} {f np a : Nat} (x : FoamAt h R f np a) (e : KpU h h1) : FoamAt h1 R f np a := by
  obtain ⟨h0, p, q, g1, g2, hp, hq, r1, r2, r3, r4⟩ := x
  exact ⟨h0, p, q, g1, g2, hp, hq, e _ _ rfl r1, e _ _ rfl r2, e _ _ rfl r3, r4⟩
theorem BoxAt.keptU {h h1 : List PE} {R : Nat → Int32} {b a : Nat} (x : BoxAt h R b a) (e : KpU h h1) : BoxAt h1 R b a := by
  obtain ⟨h0, p, z, hp, r1, r2, r3⟩ := x
  exact ⟨h0, p, z, hp, e _ _ rfl r1, e _ _ rfl r2, r3⟩
theorem DropAt.keptU {h h1 : List PE} {R : Nat → Int32} {d a : Nat} (x : DropAt h R d a) (e : KpU h h1) : DropAt h1 R d a := ⟨x.1, e _ _ rfl x.2⟩
theorem KpU.sm {h h1 : List PE} {q : Nat} {z2 : Nat → Option Nat} {z3 z4 : Nat → Int32} (g : Sm [q + 2, q + 3, q + 4] h h1) (f2 : h[q + 2]? = some (cR 4 6 z2)) (f3 : h[q + 3]? = some (cI 6 z3)) (f4 : h[q + 4]? = some (cI 6 z4)) : KpU h h1 := fun j z hb hz => g.at hz (fun q => by
  simp only [List.mem_cons, List.not_mem_nil, or_false] at q
  rcases q with e | e | e
  · subst e; rw [f2] at hz; cases hz; exact absurd (show true = false from hb) (by decide)
  · subst e; rw [f3] at hz; cases hz; exact absurd (show true = false from hb) (by decide)
  · subst e; rw [f4] at hz; cases hz; exact absurd (show true = false from hb) (by decide))
theorem BkP.pad {h h1 : List PE} {R R' : Nat → Int32} {c : CN} {a : Nat} {Q : QQ} {Z : ZZ} {t sd kf : Nat} {z2 : Nat → Option Nat} {z3 z4 : Nat → Int32} (x : BkP h R c a Q Z) (hn : c.1 ≤ 8) (hx : c.2.1 ≤ 8) (ht : t < c.2.1) (hs : sd < 6) (hk : kf < c.1) (g : Sm [Q.2.1 t + 2, Q.2.1 t + 3, Q.2.1 t + 4] h h1)
  (f2 : h[Q.2.1 t + 2]? = some (cR 4 6 z2)) (f3 : h[Q.2.1 t + 3]? = some (cI 6 z3)) (f4 : h[Q.2.1 t + 4]? = some (cI 6 z4))
  (g2 : h1[Q.2.1 t + 2]? = some (cR 4 6 (va_up z2 sd (some (Q.1 kf))))) (g3 : h1[Q.2.1 t + 3]? = some (cI 6 (upd z3 sd (R' (164 + 24 * t + 5 + 3 * sd + 1))))) (g4 : h1[Q.2.1 t + 4]? = some (cI 6 (upd z4 sd (R' (164 + 24 * t + 5 + 3 * sd + 2)))))
  (r0 : R' (164 + 24 * t + 5 + 3 * sd) = nI (kf + 1)) (ag : ∀ j, (j < 164 + 24 * t + 5 + 3 * sd ∨ 164 + 24 * t + 5 + 3 * sd + 3 ≤ j) → R' j = R j) : BkP h1 R' c a Q Z := by
  have U := KpU.sm g f2 f3 f4
  obtain ⟨p1, p2, p3, p4, p5⟩ := x
  have ne : ∀ k, k < c.2.1 → k ≠ t → Q.2.1 k + 5 ≤ Q.2.1 t ∨ Q.2.1 t + 5 ≤ Q.2.1 k := fun k hk h1 => by
    by_cases q : k < t
    · exact Or.inl (p3 k t q ht)
    · exact Or.inr (p3 t k (by omega) hk)
  refine ⟨fun k hk => ⟨(p1 k hk).1, fun np h1 h2 => ?_⟩, fun k hk => ⟨(p2 k hk).1, (p2 k hk).2.1, ?_⟩, p3, fun k hk => ⟨(p4 k hk).1, ?_⟩, fun k hk => ⟨(p5 k hk).1, ?_⟩⟩
  · rw [ag _ (by omega)] at h1
    obtain ⟨h0, p, q, g1, g2, hp, hq, r1, r2, r3, r4⟩ := ((p1 k hk).2 np h1 h2).keptU U
    exact ⟨h0, p, q, g1, g2, hp, hq, by rw [ag _ (by omega), ag _ (by omega)]; exact r1, r2, r3, fun i hi => by rw [ag _ (by omega), ag _ (by omega)]; exact r4 i hi⟩
  · obtain ⟨y1, y2, y3, y4, b1, b2, b3, b4, b5, b6, b7⟩ := (p2 k hk).2.2
    by_cases e : k = t
    · subst e
      rw [f2] at b3
      rw [f3] at b4
      rw [f4] at b5
      cases b3
      cases b4
      cases b5
      refine ⟨y1, _, _, _, ?_, g.at b2 (by simp), g2, g3, g4, fun i hi => by rw [ag _ (by omega)]; exact b6 i hi, fun sd' hs' => ?_⟩
      · rw [ag _ (by omega), ag _ (by omega)]; exact g.at b1 (by simp)
      · by_cases e2 : sd' = sd
        · subst e2
          rw [va_up_s, pk_us, pk_us, r0]
          exact ⟨fun z => absurd z (nI_ne0 (by omega) (by omega)), fun k' hk' z => by have := (nI_eq (by omega) (by omega)).mp z; rw [show k' = kf by omega], rfl, rfl⟩
        · rw [va_up_n e2, pk_un e2, pk_un e2, ag _ (by omega), ag _ (by omega), ag _ (by omega)]
          exact b7 sd' hs'
    · have hne := ne k hk e
      refine ⟨y1, y2, y3, y4, ?_, g.at b2 (by simp; omega), g.at b3 (by simp; omega), g.at b4 (by simp; omega), g.at b5 (by simp; omega), fun i hi => by rw [ag _ (by omega)]; exact b6 i hi, fun sd' hs' => ?_⟩
      · rw [ag _ (by omega), ag _ (by omega)]; exact g.at b1 (by simp; omega)
      · rw [ag _ (by omega), ag _ (by omega), ag _ (by omega)]; exact b7 sd' hs'
  · obtain ⟨h0, p, z, hp, r1, r2, r3⟩ := ((p4 k hk).2).keptU U
    exact ⟨h0, p, z, hp, by rw [ag _ (by omega), ag _ (by omega)]; exact r1, r2, fun i hi => by rw [ag _ (by omega)]; exact r3 i hi⟩
  · obtain ⟨h0, r1⟩ := ((p5 k hk).2).keptU U
    exact ⟨h0, by rw [ag _ (by omega), ag _ (by omega), ag _ (by omega), ag _ (by omega)]; exact r1⟩
theorem ne_at {h : List PE} {x y : Nat} {c1 c2 : PE} (f1 : h[x]? = some c1) (f2 : h[y]? = some c2) (n : c1 ≠ c2) : x ≠ y := fun e => by
  subst e
  rw [f1] at f2
  exact n (Option.some.inj f2)

set_option maxRecDepth 100000 in
set_option maxHeartbeats 4000000 in
theorem c_readPad {G : GT} {h : List PE} {tn N i a ln : Nat} {tv : Nat → Nat} {nl : NL'} {c : CN} {R : Nat → Int32} (hTk : TkR h tn tv N) (hi : i ≤ N) (hRd : RdS h i nl) (hB : BkC h R c a ln) (W : WFk R c) (hnl : NlOk nl c) (hk0 : kd tn tv i < 22) (hk3 : kd tn tv i = 3)  : CT G mX1_readPad 3 67 [.ref 6, .ref a] h (fun o => LnP h (padF tn tv nl i R) (i + 9) nl (padR tn tv nl i R) c a ln o ∧ Gr a [6, 12, 13, 14] 0 0 h o.2) := by
  obtain ⟨⟨v, ft, f6⟩, hNm⟩ := id hRd
  obtain ⟨ha51, Q, Z, fa, fz1, fz2, fz3, fz4, hP⟩ := id hB
  have hNm0 := hNm
  obtain ⟨hl24, y12, y13, y14, f12, f13, f14, hy⟩ := hNm0
  have la := lt_at fz4
  have hm : 51 ≤ h.length := by omega
  have w1 := W.2.1
  have w3 := W.2.2.2.1
  have w5 := W.2.2.2.2.2.1
  have w7 := W.2.2.2.2.2.2.2.1
  have hnl1 := hnl.1
  have hi1 : i + 1 ≤ N := by have := (hTk.ki hi).2; omega
  have sm0 : Gr h.length [6, 12, 13, 14] 0 0 h h := Gr.rf
  show X (NF G) G mX1_readPad 3 67 0 [(0, .ref 6), (1, .ref a)] [] h _
  refine x_aload_n dX1_readPad_0 0 rfl ?_
  refine x_iconst (v := 3) dX1_readPad_1 (by decide) ?_
  refine x_callV (rf' := 1) (rl' := 22) [.int 3] [] dX1_readPad_2 vX1_65 Y_X1_readToken f6 (by decide) rfl rfl (Nat.le_of_ble_eq_true rfl) (Nat.le_of_ble_eq_true rfl) (by decide) (by decide) (c_readToken (k := 3) (i := i) (hTk.gr sm0 hm (by decide)) (by omega) (by omega) f6) (fun r h101 e102 => ?_)
  obtain ⟨sm105, e102⟩ := e102
  have sm105 : Sm [6] h h101 := sm105
  have f107 := sm105.at fa (by first | decide | (simp; omega) | simp | omega)
  have f108 := sm105.at fz2 (by first | decide | (simp; omega) | simp | omega)
  have f109 := sm105.at f12 (by first | decide | (simp; omega) | simp | omega)
  have f110 := sm105.at f13 (by first | decide | (simp; omega) | simp | omega)
  have f111 := sm105.at f14 (by first | decide | (simp; omega) | simp | omega)
  have f112 := sm105.at fz1 (by first | decide | (simp; omega) | simp | omega)
  have f113 := sm105.at fz3 (by first | decide | (simp; omega) | simp | omega)
  have f114 := sm105.at fz4 (by first | decide | (simp; omega) | simp | omega)
  have sm115 := Gr.sm sm0 sm105 (fun x hx => Or.inl (by revert x; decide))
  cases q103 : tokF tn tv 3 i with
  | none =>
    rw [q103] at e102
    obtain ⟨e0, g106⟩ := e102
    cases e0
    have g106 : h101[6]? = some (cO 1 [.ref 7, .ref 12, .ref 13, .ref 14, .int (nI (nl.length)), .int (nI (i + 1)), .int v, .int ft, .int 0]) := g106
    obtain ⟨hin116, kkq103⟩ := tok_lt hTk (by omega) (by omega) q103
    refine x_if_eq (tgt := 16) dX1_readPad_5 (by decide) (fun c_5 => absurd c_5 (by decide)) (fun c_5 => ?_)
    refine x_aload_n dX1_readPad_8 0 rfl ?_
    refine x_iconst (v := 1) dX1_readPad_9 (by decide) ?_
    refine x_callV (rf' := 2) (rl' := 43) [.int 1] [] dX1_readPad_10 vX1_185 Y_X1_readToldName g106 (by decide) rfl rfl (Nat.le_of_ble_eq_true rfl) (Nat.le_of_ble_eq_true rfl) (by decide) (by decide) (c_readToldName (k := 1) (i := (i + 1)) (hTk.gr sm115 hm (by decide)) (by omega) ⟨hl24, _, _, _, f109, f110, f111, hy⟩ (by omega) g106) (fun r h117 e118 => ?_)
    obtain ⟨sm121, e118⟩ := e118
    have sm121 : Sm [6] h101 h117 := sm121
    have f123 := sm121.at f107 (by first | decide | (simp; omega) | simp | omega)
    have f124 := sm121.at f108 (by first | decide | (simp; omega) | simp | omega)
    have f125 := sm121.at f109 (by first | decide | (simp; omega) | simp | omega)
    have f126 := sm121.at f110 (by first | decide | (simp; omega) | simp | omega)
    have f127 := sm121.at f111 (by first | decide | (simp; omega) | simp | omega)
    have f128 := sm121.at f112 (by first | decide | (simp; omega) | simp | omega)
    have f129 := sm121.at f113 (by first | decide | (simp; omega) | simp | omega)
    have f130 := sm121.at f114 (by first | decide | (simp; omega) | simp | omega)
    have sm131 := Gr.sm sm115 sm121 (fun x hx => Or.inl (by revert x; decide))
    cases q119 : tldF tn tv nl 1 (i + 1) with
    | none =>
      rw [q119] at e118
      obtain ⟨e0, g122⟩ := e118
      cases e0
      have g122 : h117[6]? = some (cO 1 [.ref 7, .ref 12, .ref 13, .ref 14, .int (nI (nl.length)), .int (nI (i + 2)), .int (nI (tldV tn tv nl (i + 1))), .int ft, .int 0]) := g122
      obtain ⟨hin132, kkq119⟩ := tld_lt hTk (by omega) q119
      refine x_if_ne (tgt := 18) dX1_readPad_13 (by decide) (fun c_13 => ?_) (fun c_13 => absurd c_13 (by decide))
      refine x_aload_n dX1_readPad_18 1 rfl ?_
      refine x_aload_n dX1_readPad_19 0 rfl ?_
      refine x_get (v := .int (nI (tldV tn tv nl (i + 1)))) dX1_readPad_20 fX1_38 g122 (by decide) rfl ?_
      have ht := (tld_in hnl q119).2 rfl
      obtain ⟨hz, hq5, z1, z2, z3, z4, b1, b2, b3, b4, b5, b6, b7⟩ := id (hP.2.1 _ ht)
      obtain ⟨q, hqe⟩ : ∃ q, q = Q.2.1 (tldV tn tv nl (i + 1)) := ⟨_, rfl⟩
      rw [← hqe] at hz hq5 b1 b2 b3 b4 b5
      have lq := lt_at b5
      have f133 := sm131.at b1 (by omega) (nm6 _ (by omega))
      have f134 := sm131.at b2 (by omega) (nm6 _ (by omega))
      have f135 := sm131.at b3 (by omega) (nm6 _ (by omega))
      have f136 := sm131.at b4 (by omega) (nm6 _ (by omega))
      have f137 := sm131.at b5 (by omega) (nm6 _ (by omega))
      refine x_callV (rf' := 0) (rl' := 0) [.int (nI (tldV tn tv nl (i + 1)))] [] dX1_readPad_23 vX1_188 Y_X0_thingAt f123 (by omega) rfl rfl (Nat.le_of_ble_eq_true rfl) (Nat.le_of_ble_eq_true rfl) (by decide) (by decide) (c_thingAtS f123 f124 (by omega) (by omega) w3 ht hz) (fun _ _ e138 => ?_)
      cases e138
      refine x_astore_n (lv2 := [(2, .ref q), (0, .ref 6), (1, .ref a)]) dX1_readPad_26 (by decide) rfl ?_
      refine x_aload_n dX1_readPad_27 0 rfl ?_
      refine x_ifnull dX1_readPad_28 ?_
      refine x_aload_n dX1_readPad_31 1 rfl ?_
      refine x_bipush (v := 12) dX1_readPad_32 (by decide) ?_
      refine x_iconst (v := 0) dX1_readPad_34 (by decide) ?_
      refine x_iconst (v := 5) dX1_readPad_35 (by decide) ?_
      refine x_callV (rf' := 2) (rl' := 44) [.int 12, .int 0, .int 5] [] dX1_readPad_36 vX1_113 Y_X1_readNumberOf g122 (by decide) rfl rfl (Nat.le_of_ble_eq_true rfl) (Nat.le_of_ble_eq_true rfl) (by decide) (by decide) (c_readNumberOf (k := 12) (a := 0) (b := 5) (i := (i + 2)) (hTk.gr sm131 hm (by decide)) (by omega) (by omega) g122) (fun r h139 e140 => ?_)
      obtain ⟨sm143, e140⟩ := e140
      have sm143 : Sm [6] h117 h139 := sm143
      have f145 := sm143.at f123 (by first | decide | (simp; omega) | simp | omega)
      have f146 := sm143.at f124 (by first | decide | (simp; omega) | simp | omega)
      have f147 := sm143.at f125 (by first | decide | (simp; omega) | simp | omega)
      have f148 := sm143.at f126 (by first | decide | (simp; omega) | simp | omega)
      have f149 := sm143.at f127 (by first | decide | (simp; omega) | simp | omega)
      have f150 := sm143.at f128 (by first | decide | (simp; omega) | simp | omega)
      have f151 := sm143.at f129 (by first | decide | (simp; omega) | simp | omega)
      have f152 := sm143.at f130 (by first | decide | (simp; omega) | simp | omega)
      have f153 := sm143.at f133 (by first | decide | (simp; omega) | simp | omega)
      have f154 := sm143.at f134 (by first | decide | (simp; omega) | simp | omega)
      have f155 := sm143.at f135 (by first | decide | (simp; omega) | simp | omega)
      have f156 := sm143.at f136 (by first | decide | (simp; omega) | simp | omega)
      have f157 := sm143.at f137 (by first | decide | (simp; omega) | simp | omega)
      have sm158 := Gr.sm sm131 sm143 (fun x hx => Or.inl (by revert x; decide))
      cases q141 : numOfF tn tv 12 0 5 (i + 2) with
      | none =>
        rw [q141] at e140
        obtain ⟨e0, g144⟩ := e140
        cases e0
        have g144 : h139[6]? = some (cO 1 [.ref 7, .ref 12, .ref 13, .ref 14, .int (nI (nl.length)), .int (nI (i + 4)), .int (nI (nv tn tv (i + 3))), .int ft, .int 0]) := g144
        obtain ⟨hin159, kkq141⟩ := numOf_lt hTk (by omega) (by omega) q141
        refine x_if_ne (tgt := 44) dX1_readPad_39 (by decide) (fun c_39 => ?_) (fun c_39 => absurd c_39 (by decide))
        refine x_aload_n dX1_readPad_44 1 rfl ?_
        refine x_get (v := .int (nI (nv tn tv (i + 3)))) dX1_readPad_45 fX1_38 g144 (by decide) rfl ?_
        refine x_istore_n (lv2 := [(3, .int (nI (nv tn tv (i + 3)))), (2, .ref q), (0, .ref 6), (1, .ref a)]) dX1_readPad_48 (by decide) rfl ?_
        refine x_aload_n dX1_readPad_49 1 rfl ?_
        refine x_iload_n dX1_readPad_50 0 rfl ?_
        have hs : (nv tn tv (i + 3)) < 6 := by have := num_rng (a := 0) (b := 5) (orN q141).2 (by decide) (by decide); rw [show i + 2 + 1 = i + 3 from rfl] at this; omega
        have b8 := b7 _ hs
        rcases (W.2.2.2.2.2.2.2.2.2.1 _ ht).2.2.2 _ hs with hR0 | ⟨k0, hk0, hR0, -⟩
        · have hpd : ¬ 0 < R (padP tn tv nl i) := by rw [show R (padP tn tv nl i) = 0 from hR0]; decide
          refine x_callV (rf' := 1) (rl' := 20) [.int (nI (nv tn tv (i + 3)))] [] dX1_readPad_51 vX1_192 Y_X9_foamOn f153 (by omega) rfl rfl (Nat.le_of_ble_eq_true rfl) (Nat.le_of_ble_eq_true rfl) (by decide) (by decide) (c_foamOnN (by omega) hs f153 f155 (b8.1 hR0)) (fun _ _ e160 => ?_)
          cases e160
          refine x_ifnullN (tgt := 69) dX1_readPad_54 (by decide) ?_
          refine x_aload_n dX1_readPad_69 2 rfl ?_
          refine x_iconst (v := 0) dX1_readPad_70 (by decide) ?_
          refine x_callV (rf' := 2) (rl' := 43) [.int 0] [] dX1_readPad_71 vX1_185 Y_X1_readToldName g144 (by decide) rfl rfl (Nat.le_of_ble_eq_true rfl) (Nat.le_of_ble_eq_true rfl) (by decide) (by decide) (c_readToldName (k := 0) (i := (i + 4)) (hTk.gr sm158 hm (by decide)) (by omega) ⟨hl24, _, _, _, f147, f148, f149, hy⟩ (by omega) g144) (fun r h161 e162 => ?_)
          obtain ⟨sm165, e162⟩ := e162
          have sm165 : Sm [6] h139 h161 := sm165
          have f167 := sm165.at f145 (by first | decide | (simp; omega) | simp | omega)
          have f168 := sm165.at f146 (by first | decide | (simp; omega) | simp | omega)
          have f169 := sm165.at f147 (by first | decide | (simp; omega) | simp | omega)
          have f170 := sm165.at f148 (by first | decide | (simp; omega) | simp | omega)
          have f171 := sm165.at f149 (by first | decide | (simp; omega) | simp | omega)
          have f172 := sm165.at f150 (by first | decide | (simp; omega) | simp | omega)
          have f173 := sm165.at f151 (by first | decide | (simp; omega) | simp | omega)
          have f174 := sm165.at f152 (by first | decide | (simp; omega) | simp | omega)
          have f175 := sm165.at f153 (by first | decide | (simp; omega) | simp | omega)
          have f176 := sm165.at f154 (by first | decide | (simp; omega) | simp | omega)
          have f177 := sm165.at f155 (by first | decide | (simp; omega) | simp | omega)
          have f178 := sm165.at f156 (by first | decide | (simp; omega) | simp | omega)
          have f179 := sm165.at f157 (by first | decide | (simp; omega) | simp | omega)
          have sm180 := Gr.sm sm158 sm165 (fun x hx => Or.inl (by revert x; decide))
          cases q163 : tldF tn tv nl 0 (i + 4) with
          | none =>
            rw [q163] at e162
            obtain ⟨e0, g166⟩ := e162
            cases e0
            have g166 : h161[6]? = some (cO 1 [.ref 7, .ref 12, .ref 13, .ref 14, .int (nI (nl.length)), .int (nI (i + 5)), .int (nI (tldV tn tv nl (i + 4))), .int ft, .int 0]) := g166
            obtain ⟨hin181, kkq163⟩ := tld_lt hTk (by omega) q163
            refine x_if_ne (tgt := 79) dX1_readPad_74 (by decide) (fun c_74 => ?_) (fun c_74 => absurd c_74 (by decide))
            refine x_aload_n dX1_readPad_79 3 rfl ?_
            refine x_aload_n dX1_readPad_80 2 rfl ?_
            refine x_get (v := .int (nI (tldV tn tv nl (i + 4)))) dX1_readPad_81 fX1_38 g166 (by decide) rfl ?_
            have hkf := (tld_in hnl q163).1 rfl
            obtain ⟨np9, P9, U9, ke9, pr9, WF9⟩ := W.2.2.2.2.2.2.2.2.1 _ hkf
            obtain ⟨hb51, p9, q9, g19, g29, hp9, hq9, fb9, -⟩ := (hP.1 _ hkf).2 np9 WF9.1 WF9.2.2.1
            refine x_callV (rf' := 0) (rl' := 0) [.int (nI (tldV tn tv nl (i + 4)))] [] dX1_readPad_84 vX1_196 Y_X0_foamAt f167 (by omega) rfl rfl (Nat.le_of_ble_eq_true rfl) (Nat.le_of_ble_eq_true rfl) (by decide) (by decide) (c_foamAtS f167 f172 (by omega) (by omega) w1 hkf (hP.1 _ hkf).1) (fun _ _ e182 => ?_)
            cases e182
            refine x_astore (lv2 := [(4, .ref (Q.1 (tldV tn tv nl (i + 4)))), (3, .int (nI (nv tn tv (i + 3)))), (2, .ref q), (0, .ref 6), (1, .ref a)]) dX1_readPad_87 (by decide) rfl ?_
            refine x_aload_n dX1_readPad_89 3 rfl ?_
            refine x_bipush (v := 13) dX1_readPad_90 (by decide) ?_
            refine x_bipush (v := 10) dX1_readPad_92 (by decide) ?_
            refine x_sipush (v := 600) dX1_readPad_94 (by decide) ?_
            refine x_callV (rf' := 2) (rl' := 44) [.int 13, .int 10, .int 600] [] dX1_readPad_97 vX1_113 Y_X1_readNumberOf g166 (by decide) rfl rfl (Nat.le_of_ble_eq_true rfl) (Nat.le_of_ble_eq_true rfl) (by decide) (by decide) (c_readNumberOf (k := 13) (a := 10) (b := 600) (i := (i + 5)) (hTk.gr sm180 hm (by decide)) (by omega) (by omega) g166) (fun r h183 e184 => ?_)
            obtain ⟨sm187, e184⟩ := e184
            have sm187 : Sm [6] h161 h183 := sm187
            have f189 := sm187.at f167 (by first | decide | (simp; omega) | simp | omega)
            have f190 := sm187.at f168 (by first | decide | (simp; omega) | simp | omega)
            have f191 := sm187.at f169 (by first | decide | (simp; omega) | simp | omega)
            have f192 := sm187.at f170 (by first | decide | (simp; omega) | simp | omega)
            have f193 := sm187.at f171 (by first | decide | (simp; omega) | simp | omega)
            have f194 := sm187.at f172 (by first | decide | (simp; omega) | simp | omega)
            have f195 := sm187.at f173 (by first | decide | (simp; omega) | simp | omega)
            have f196 := sm187.at f174 (by first | decide | (simp; omega) | simp | omega)
            have f197 := sm187.at f175 (by first | decide | (simp; omega) | simp | omega)
            have f198 := sm187.at f176 (by first | decide | (simp; omega) | simp | omega)
            have f199 := sm187.at f177 (by first | decide | (simp; omega) | simp | omega)
            have f200 := sm187.at f178 (by first | decide | (simp; omega) | simp | omega)
            have f201 := sm187.at f179 (by first | decide | (simp; omega) | simp | omega)
            have sm202 := Gr.sm sm180 sm187 (fun x hx => Or.inl (by revert x; decide))
            cases q185 : numOfF tn tv 13 10 600 (i + 5) with
            | none =>
              rw [q185] at e184
              obtain ⟨e0, g188⟩ := e184
              cases e0
              have g188 : h183[6]? = some (cO 1 [.ref 7, .ref 12, .ref 13, .ref 14, .int (nI (nl.length)), .int (nI (i + 7)), .int (nI (nv tn tv (i + 6))), .int ft, .int 0]) := g188
              obtain ⟨hin203, kkq185⟩ := numOf_lt hTk (by omega) (by omega) q185
              refine x_if_ne (tgt := 105) dX1_readPad_100 (by decide) (fun c_100 => ?_) (fun c_100 => absurd c_100 (by decide))
              refine x_aload_n dX1_readPad_105 3 rfl ?_
              refine x_get (v := .int (nI (nv tn tv (i + 6)))) dX1_readPad_106 fX1_38 g188 (by decide) rfl ?_
              refine x_istore (lv2 := [(5, .int (nI (nv tn tv (i + 6)))), (4, .ref (Q.1 (tldV tn tv nl (i + 4)))), (3, .int (nI (nv tn tv (i + 3)))), (2, .ref q), (0, .ref 6), (1, .ref a)]) dX1_readPad_109 (by decide) rfl ?_
              refine x_aload_n dX1_readPad_111 4 rfl ?_
              refine x_bipush (v := 14) dX1_readPad_112 (by decide) ?_
              refine x_iconst (v := 1) dX1_readPad_114 (by decide) ?_
              refine x_sipush (v := 2000) dX1_readPad_115 (by decide) ?_
              refine x_callV (rf' := 2) (rl' := 44) [.int 14, .int 1, .int 2000] [] dX1_readPad_118 vX1_113 Y_X1_readNumberOf g188 (by decide) rfl rfl (Nat.le_of_ble_eq_true rfl) (Nat.le_of_ble_eq_true rfl) (by decide) (by decide) (c_readNumberOf (k := 14) (a := 1) (b := 2000) (i := (i + 7)) (hTk.gr sm202 hm (by decide)) (by omega) (by omega) g188) (fun r h204 e205 => ?_)
              obtain ⟨sm208, e205⟩ := e205
              have sm208 : Sm [6] h183 h204 := sm208
              have f210 := sm208.at f189 (by first | decide | (simp; omega) | simp | omega)
              have f211 := sm208.at f190 (by first | decide | (simp; omega) | simp | omega)
              have f212 := sm208.at f191 (by first | decide | (simp; omega) | simp | omega)
              have f213 := sm208.at f192 (by first | decide | (simp; omega) | simp | omega)
              have f214 := sm208.at f193 (by first | decide | (simp; omega) | simp | omega)
              have f215 := sm208.at f194 (by first | decide | (simp; omega) | simp | omega)
              have f216 := sm208.at f195 (by first | decide | (simp; omega) | simp | omega)
              have f217 := sm208.at f196 (by first | decide | (simp; omega) | simp | omega)
              have f218 := sm208.at f197 (by first | decide | (simp; omega) | simp | omega)
              have f219 := sm208.at f198 (by first | decide | (simp; omega) | simp | omega)
              have f220 := sm208.at f199 (by first | decide | (simp; omega) | simp | omega)
              have f221 := sm208.at f200 (by first | decide | (simp; omega) | simp | omega)
              have f222 := sm208.at f201 (by first | decide | (simp; omega) | simp | omega)
              have sm223 := Gr.sm sm202 sm208 (fun x hx => Or.inl (by revert x; decide))
              cases q206 : numOfF tn tv 14 1 2000 (i + 7) with
              | none =>
                rw [q206] at e205
                obtain ⟨e0, g209⟩ := e205
                cases e0
                have g209 : h204[6]? = some (cO 1 [.ref 7, .ref 12, .ref 13, .ref 14, .int (nI (nl.length)), .int (nI (i + 9)), .int (nI (nv tn tv (i + 8))), .int ft, .int 0]) := g209
                obtain ⟨hin224, kkq206⟩ := numOf_lt hTk (by omega) (by omega) q206
                refine x_if_ne (tgt := 126) dX1_readPad_121 (by decide) (fun c_121 => ?_) (fun c_121 => absurd c_121 (by decide))
                refine x_aload_n dX1_readPad_126 3 rfl ?_
                refine x_iload_n dX1_readPad_127 2 rfl ?_
                refine x_aload dX1_readPad_128 1 rfl ?_
                refine x_iload dX1_readPad_130 0 rfl ?_
                refine x_aload_n dX1_readPad_132 4 rfl ?_
                refine x_get (v := .int (nI (nv tn tv (i + 8)))) dX1_readPad_133 fX1_38 g209 (by decide) rfl ?_
                have fb := sm223.at fb9 (lt_at fb9) (nm6 _ hb51)
                refine x_callV (rf' := 1) (rl' := 20) [.int (nI (nv tn tv (i + 3))), .ref (Q.1 (tldV tn tv nl (i + 4))), .int (nI (nv tn tv (i + 6))), .int (nI (nv tn tv (i + 8)))] [] dX1_readPad_136 vX1_199 Y_X9_putPad f218 (by omega) rfl rfl (Nat.le_of_ble_eq_true rfl) (Nat.le_of_ble_eq_true rfl) (by decide) (by decide) (c_putPad (by omega) hs (by omega) ⟨ne_at fb f218 (by simp), ne_at fb f220 (by simp), ne_at fb f221 (by simp), ne_at fb f222 (by simp)⟩ f218 f220 f221 f222 fb) (fun r h225 e226 => ?_)
                obtain ⟨e0, sm9, -, g2, g3, g4⟩ := e226
                cases e0
                have sm9 : Sm [q + 2, q + 3, q + 4] h204 h225 := sm9
                have P1 : BkP h204 R c a Q Z := hP.kept ha51 (KpT.gr sm223 nm6)
                have G0 : Gr a [6, 12, 13, 14] 0 0 h h225 := Gr.sm (Gr.wide (m := a) sm223 (fun x _ hx => hx) (by omega) (Nat.le_refl _) (Nat.le_refl _)) sm9 (fun x hx => Or.inr (by simp at hx; omega))
                have G9 : Gr a [6, 12, 13, 14] 5 27 h h225 := Gr.wide (Gr.sm (Gr.wide (m := a) sm223 (fun x _ hx => hx) (by omega) (Nat.le_refl _) (Nat.le_refl _)) sm9 (fun x hx => Or.inr (by simp at hx; omega))) (fun x _ hx => hx) (Nat.le_refl _) (by decide) (by decide)
                have f227 := sm9.at g209 (by first | decide | (simp; omega) | simp | omega)
                have f228 := sm9.at f210 (by first | decide | (simp; omega) | simp | omega)
                have f229 := sm9.at f211 (by first | decide | (simp; omega) | simp | omega)
                have f230 := sm9.at f212 (by first | decide | (simp; omega) | simp | omega)
                have f231 := sm9.at f213 (by first | decide | (simp; omega) | simp | omega)
                have f232 := sm9.at f214 (by first | decide | (simp; omega) | simp | omega)
                have f233 := sm9.at f215 (by first | decide | (simp; omega) | simp | omega)
                have f234 := sm9.at f216 (by first | decide | (simp; omega) | simp | omega)
                have f235 := sm9.at f217 (by first | decide | (simp; omega) | simp | omega)
                have f236 := sm9.at f218 (by first | decide | (simp; omega) | simp | omega)
                have f237 := sm9.at f219 (by first | decide | (simp; omega) | simp | omega)
                have t1 : padR tn tv nl i R (164 + 24 * (tldV tn tv nl (i + 1)) + 5 + 3 * (nv tn tv (i + 3)) + 1) = nI (nv tn tv (i + 6)) := by show padR tn tv nl i R (padP tn tv nl i + 1) = _; unfold padR; rw [if_neg (by omega), if_pos rfl]
                have t2 : padR tn tv nl i R (164 + 24 * (tldV tn tv nl (i + 1)) + 5 + 3 * (nv tn tv (i + 3)) + 2) = nI (nv tn tv (i + 8)) := by show padR tn tv nl i R (padP tn tv nl i + 2) = _; unfold padR; rw [if_neg (by omega), if_neg (by omega), if_pos rfl]
                rw [hqe] at sm9 g2 g3 g4
                have of220 := f220
                have of221 := f221
                have of222 := f222
                rw [hqe] at of220 of221 of222
                have P3 : BkP h225 (padR tn tv nl i R) c a Q Z := P1.pad w1 w3 ht hs hkf sm9 of220 of221 of222 g2 (by rw [t1]; exact g3) (by rw [t2]; exact g4) (if_pos rfl) (fun j hj => by unfold padR; rw [if_neg (by unfold padP; omega), if_neg (by unfold padP; omega), if_neg (by unfold padP; omega)])
                have g0 := f228
                refine x_iconst (v := 1) dX1_readPad_139 (by decide) ?_
                exact x_zret dX1_readPad_140 rfl rfl ⟨⟨G9, by rw [show padF tn tv nl i R = none by unfold padF; rw [q119, q141, if_neg hpd, q163, q185, q206]; rfl]; exact ⟨rfl, ⟨⟨_, _, f227⟩, ⟨hl24, _, _, _, f230, f231, f232, hy⟩⟩, ha51, _, Z, g0, f233, f229, f234, f235, P3⟩⟩, G0⟩
              | some fl207 =>
                rw [q206] at e205
                obtain ⟨e0, v238, v239, g209⟩ := e205
                cases e0
                refine x_if_ne (tgt := 126) dX1_readPad_121 (by decide) (fun c_121 => absurd (by decide) c_121) (fun c_121 => ?_)
                refine x_iconst (v := 0) dX1_readPad_124 (by decide) ?_
                exact x_zret dX1_readPad_125 rfl rfl ⟨⟨Gr.wide (m := a) sm223 (fun x _ hx => hx) (by omega) (by decide) (by decide), by rw [show padF tn tv nl i R = some fl207 by unfold padF; rw [q119, q141, if_neg hpd, q163, q185, q206]; rfl]; exact ⟨rfl, ⟨_, _, _, g209⟩, _, _, _, f212, f213, f214⟩⟩, Gr.wide (m := a) sm223 (fun x _ hx => hx) (by omega) (Nat.le_refl _) (Nat.le_refl _)⟩
            | some fl186 =>
              rw [q185] at e184
              obtain ⟨e0, v241, v242, g188⟩ := e184
              cases e0
              refine x_if_ne (tgt := 105) dX1_readPad_100 (by decide) (fun c_100 => absurd (by decide) c_100) (fun c_100 => ?_)
              refine x_iconst (v := 0) dX1_readPad_103 (by decide) ?_
              exact x_zret dX1_readPad_104 rfl rfl ⟨⟨Gr.wide (m := a) sm202 (fun x _ hx => hx) (by omega) (by decide) (by decide), by rw [show padF tn tv nl i R = some fl186 by unfold padF; rw [q119, q141, if_neg hpd, q163, q185]; rfl]; exact ⟨rfl, ⟨_, _, _, g188⟩, _, _, _, f191, f192, f193⟩⟩, Gr.wide (m := a) sm202 (fun x _ hx => hx) (by omega) (Nat.le_refl _) (Nat.le_refl _)⟩
          | some fl164 =>
            rw [q163] at e162
            obtain ⟨e0, v244, g166⟩ := e162
            cases e0
            refine x_if_ne (tgt := 79) dX1_readPad_74 (by decide) (fun c_74 => absurd (by decide) c_74) (fun c_74 => ?_)
            refine x_iconst (v := 0) dX1_readPad_77 (by decide) ?_
            exact x_zret dX1_readPad_78 rfl rfl ⟨⟨Gr.wide (m := a) sm180 (fun x _ hx => hx) (by omega) (by decide) (by decide), by rw [show padF tn tv nl i R = some fl164 by unfold padF; rw [q119, q141, if_neg hpd, q163]; rfl]; exact ⟨rfl, ⟨_, _, _, g166⟩, _, _, _, f169, f170, f171⟩⟩, Gr.wide (m := a) sm180 (fun x _ hx => hx) (by omega) (Nat.le_refl _) (Nat.le_refl _)⟩
        · have hpd : 0 < R (padP tn tv nl i) := by rw [show R (padP tn tv nl i) = nI (k0 + 1) from hR0]; exact (nI_ltI (a := 0) (by decide) (by omega)).mpr (by omega)
          refine x_callV (rf' := 1) (rl' := 20) [.int (nI (nv tn tv (i + 3)))] [] dX1_readPad_51 vX1_192 Y_X9_foamOn f153 (by omega) rfl rfl (Nat.le_of_ble_eq_true rfl) (Nat.le_of_ble_eq_true rfl) (by decide) (by decide) (c_foamOnS (by omega) hs f153 f155 (b8.2.1 k0 (by omega) hR0)) (fun _ _ e246 => ?_)
          cases e246
          refine x_ifnull dX1_readPad_54 ?_
          refine x_aload_n dX1_readPad_57 2 rfl ?_
          refine x_aload_n dX1_readPad_58 2 rfl ?_
          refine x_get (v := .int (nI (i + 4))) dX1_readPad_59 fX1_35 g144 (by decide) rfl ?_
          refine x_iconst (v := 1) dX1_readPad_62 (by decide) ?_
          refine x_isubN (a := (i + 4)) (b := 1) (by omega) dX1_readPad_63 ?_
          refine x_iconst (v := 4) dX1_readPad_64 (by decide) ?_
          refine x_callV (rf' := 0) (rl' := 0) [.int (nI ((i + 4) - 1)), .int 4] [] dX1_readPad_65 vX1_71 Y_X1_refuse g144 (by decide) rfl rfl (Nat.le_of_ble_eq_true rfl) (Nat.le_of_ble_eq_true rfl) (by decide) (by decide) (c_refuse g144) (fun r h247 e248 => ?_)
          obtain ⟨sm250, e0, g249⟩ := e248
          cases e0
          have sm250 : Sm [6] h139 h247 := sm250
          have sm251 := Gr.sm sm158 sm250 (fun x hx => Or.inl (by revert x; decide))
          have f252 := sm250.at f145 (by first | decide | (simp; omega) | simp | omega)
          have f253 := sm250.at f146 (by first | decide | (simp; omega) | simp | omega)
          have f254 := sm250.at f147 (by first | decide | (simp; omega) | simp | omega)
          have f255 := sm250.at f148 (by first | decide | (simp; omega) | simp | omega)
          have f256 := sm250.at f149 (by first | decide | (simp; omega) | simp | omega)
          have f257 := sm250.at f150 (by first | decide | (simp; omega) | simp | omega)
          have f258 := sm250.at f151 (by first | decide | (simp; omega) | simp | omega)
          have f259 := sm250.at f152 (by first | decide | (simp; omega) | simp | omega)
          have f260 := sm250.at f153 (by first | decide | (simp; omega) | simp | omega)
          have f261 := sm250.at f154 (by first | decide | (simp; omega) | simp | omega)
          have f262 := sm250.at f155 (by first | decide | (simp; omega) | simp | omega)
          have f263 := sm250.at f156 (by first | decide | (simp; omega) | simp | omega)
          have f264 := sm250.at f157 (by first | decide | (simp; omega) | simp | omega)
          exact x_zret dX1_readPad_68 rfl rfl ⟨⟨Gr.wide (m := a) sm251 (fun x _ hx => hx) (by omega) (by decide) (by decide), by rw [show padF tn tv nl i R = some (4, i + 3) by unfold padF; rw [q119, q141, if_pos hpd]; rfl]; exact ⟨rfl, ⟨_, _, _, g249⟩, _, _, _, f254, f255, f256⟩⟩, Gr.wide (m := a) sm251 (fun x _ hx => hx) (by omega) (Nat.le_refl _) (Nat.le_refl _)⟩
      | some fl142 =>
        rw [q141] at e140
        obtain ⟨e0, v265, v266, g144⟩ := e140
        cases e0
        refine x_if_ne (tgt := 44) dX1_readPad_39 (by decide) (fun c_39 => absurd (by decide) c_39) (fun c_39 => ?_)
        refine x_iconst (v := 0) dX1_readPad_42 (by decide) ?_
        exact x_zret dX1_readPad_43 rfl rfl ⟨⟨Gr.wide (m := a) sm158 (fun x _ hx => hx) (by omega) (by decide) (by decide), by rw [show padF tn tv nl i R = some fl142 by unfold padF; rw [q119, q141]; rfl]; exact ⟨rfl, ⟨_, _, _, g144⟩, _, _, _, f147, f148, f149⟩⟩, Gr.wide (m := a) sm158 (fun x _ hx => hx) (by omega) (Nat.le_refl _) (Nat.le_refl _)⟩
    | some fl120 =>
      rw [q119] at e118
      obtain ⟨e0, v268, g122⟩ := e118
      cases e0
      refine x_if_ne (tgt := 18) dX1_readPad_13 (by decide) (fun c_13 => absurd (by decide) c_13) (fun c_13 => ?_)
      refine x_iconst (v := 0) dX1_readPad_16 (by decide) ?_
      exact x_zret dX1_readPad_17 rfl rfl ⟨⟨Gr.wide (m := a) sm131 (fun x _ hx => hx) (by omega) (by decide) (by decide), by rw [show padF tn tv nl i R = some fl120 by unfold padF; rw [q119]; rfl]; exact ⟨rfl, ⟨_, _, _, g122⟩, _, _, _, f125, f126, f127⟩⟩, Gr.wide (m := a) sm131 (fun x _ hx => hx) (by omega) (Nat.le_refl _) (Nat.le_refl _)⟩
  | some fl104 =>
    rw [q103] at e102
    obtain ⟨e0, g106⟩ := e102
    cases e0
    refine x_if_eq (tgt := 16) dX1_readPad_5 (by decide) (fun c_5 => ?_) (fun c_5 => absurd (by decide) c_5)
    refine x_iconst (v := 0) dX1_readPad_16 (by decide) ?_
    exact x_zret dX1_readPad_17 rfl rfl (absurd q103 (by rw [show tokF tn tv 3 i = none from if_pos hk3]; simp))

/-! ===== a BOOK of the class that is being read ===== -/
def ThC (h : List PE) (R : Nat → Int32) (t : Nat) (fq : Nat → Nat) (q : Nat) : Prop := ∃ (z1 : Nat → Int32) (z2 : Nat → Option Nat) (z3 z4 : Nat → Int32), h[q]? = some (cO 9 [.ref (q + 1), .ref (q + 2), .ref (q + 3), .ref (q + 4), .int (R t), .int (R (t + 4))]) ∧ h[q + 1]? = some (cI 3 z1) ∧ h[q + 2]? = some (cR 4 6 z2) ∧ h[q + 3]? = some (cI 6 z3) ∧ h[q + 4]? = some (cI 6 z4) ∧ (∀ i, i < 3 → z1 i = R (t + 1 + i)) ∧
  ∀ sd, sd < 6 → (R (t + 5 + 3 * sd) = 0 → z2 sd = none) ∧ (∀ k, k < 8 → R (t + 5 + 3 * sd) = nI (k + 1) → z2 sd = some (fq k)) ∧ z3 sd = R (t + 5 + 3 * sd + 1) ∧ z4 sd = R (t + 5 + 3 * sd + 2)
abbrev QQ : Type := (Nat → Nat) × (Nat → Nat) × (Nat → Nat) × (Nat → Nat)
abbrev ZZ : Type := (Nat → Option Nat) × (Nat → Option Nat) × (Nat → Option Nat) × (Nat → Option Nat)
def BkP (h : List PE) (R : Nat → Int32) (c : CN) (a : Nat) (Q : QQ) (Z : ZZ) : Prop := (∀ k, k < c.1 → Z.1 k = some (Q.1 k) ∧ ∀ np, R (4 + 20 * k) = nI np → np ≤ 8 → FoamAt h R (4 + 20 * k) np (Q.1 k)) ∧ (∀ k, k < c.2.1 → Z.2.1 k = some (Q.2.1 k) ∧ a + 5 ≤ Q.2.1 k ∧ ThC h R (164 + 24 * k) Q.1 (Q.2.1 k)) ∧ (∀ k k', k < k' → k' < c.2.1 → Q.2.1 k + 5 ≤ Q.2.1 k') ∧ (∀ k, k < c.2.2.1 → Z.2.2.1 k = some (Q.2.2.1 k) ∧ BoxAt h R (356 + 6 * k) (Q.2.2.1 k)) ∧ ∀ k, k < c.2.2.2 → Z.2.2.2 k = some (Q.2.2.2 k) ∧ DropAt h R (404 + 4 * k) (Q.2.2.2 k)
def BkC (h : List PE) (R : Nat → Int32) (c : CN) (a ln : Nat) : Prop := 51 ≤ a ∧ ∃ (Q : QQ) (Z : ZZ), h[a]? = some (cO 0 [.ref (a + 1), .ref (a + 2), .ref (a + 3), .ref (a + 4), .int (nI (c.1)), .int (nI (c.2.1)), .int (nI (c.2.2.1)), .int (nI (c.2.2.2)), .int (nI ln), .int 0]) ∧ h[a + 1]? = some (cR 4 8 Z.1) ∧ h[a + 2]? = some (cR 5 8 Z.2.1) ∧ h[a + 3]? = some (cR 6 8 Z.2.2.1) ∧ h[a + 4]? = some (cR 7 20 Z.2.2.2) ∧ BkP h R c a Q Z
/-- cells of a BOOK's own -/
def bkT (z : PE) : Bool := match z with
  | .inl x => decide (x.1 = 4 ∧ x.2.1 = 8 ∨ x.1 = 5 ∨ x.1 = 6 ∨ x.1 = 7)
  | .inr o => decide (o.1 = 0)
def KpT (h h1 : List PE) : Prop := ∀ j z, 51 ≤ j → bkT z = false → h[j]? = some z → h1[j]? = some z
theorem ThC.kept {h h1 : List PE} {R : Nat → Int32} {t q : Nat} {fq : Nat → Nat} (x : ThC h R t fq q) (hq : 51 ≤ q) (e : KpT h h1) : ThC h1 R t fq q := by
  obtain ⟨z1, z2, z3, z4, a, b, c, d, f, r⟩ := x
  exact ⟨z1, z2, z3, z4, e _ _ hq rfl a, e _ _ (by omega) rfl b, e _ _ (by omega) rfl c, e _ _ (by omega) rfl d, e _ _ (by omega) rfl f, r⟩
theorem FoamAt.keptT {h h1 : List PE} {R : Nat → Int32} {f np a : Nat} (x : FoamAt h R f np a) (e : KpT h h1) : FoamAt h1 R f np a := by
  obtain ⟨h0, p, q, g1, g2, hp, hq, r1, r2, r3, r4⟩ := x
  exact ⟨h0, p, q, g1, g2, hp, hq, e _ _ h0 rfl r1, e _ _ hp rfl r2, e _ _ hq rfl r3, r4⟩
theorem BoxAt.keptT {h h1 : List PE} {R : Nat → Int32} {b a : Nat} (x : BoxAt h R b a) (e : KpT h h1) : BoxAt h1 R b a := by
  obtain ⟨h0, p, z, hp, r1, r2, r3⟩ := x
  exact ⟨h0, p, z, hp, e _ _ h0 rfl r1, e _ _ hp rfl r2, r3⟩
theorem DropAt.keptT {h h1 : List PE} {R : Nat → Int32} {d a : Nat} (x : DropAt h R d a) (e : KpT h h1) : DropAt h1 R d a := ⟨x.1, e _ _ x.1 rfl x.2⟩
theorem BkP.kept {h h1 : List PE} {R : Nat → Int32} {c : CN} {a : Nat} {Q : QQ} {Z : ZZ} (x : BkP h R c a Q Z) (ha : 51 ≤ a) (e : KpT h h1) : BkP h1 R c a Q Z := by
  obtain ⟨p1, p2, p3, p4, p5⟩ := x
  exact ⟨fun k hk => ⟨(p1 k hk).1, fun np a b => ((p1 k hk).2 np a b).keptT e⟩, fun k hk => ⟨(p2 k hk).1, (p2 k hk).2.1, (p2 k hk).2.2.kept (by have := (p2 k hk).2.1; omega) e⟩, p3, fun k hk => ⟨(p4 k hk).1, (p4 k hk).2.keptT e⟩, fun k hk => ⟨(p5 k hk).1, (p5 k hk).2.keptT e⟩⟩
/-- places of a record that a told BOOK has -/
def relB (c : CN) (j : Nat) : Prop := (4 ≤ j ∧ j < 4 + 20 * c.1) ∨ (164 ≤ j ∧ j < 164 + 24 * c.2.1) ∨ (356 ≤ j ∧ j < 356 + 6 * c.2.2.1) ∨ (404 ≤ j ∧ j < 404 + 4 * c.2.2.2)
theorem BkP.rec {h : List PE} {R R' : Nat → Int32} {c : CN} {a : Nat} {Q : QQ} {Z : ZZ} (x : BkP h R c a Q Z) (e : ∀ j, relB c j → R' j = R j) : BkP h R' c a Q Z := by
  obtain ⟨p1, p2, p3, p4, p5⟩ := x
  refine ⟨fun k hk => ⟨(p1 k hk).1, fun np h1 h2 => ?_⟩, fun k hk => ⟨(p2 k hk).1, (p2 k hk).2.1, ?_⟩, p3, fun k hk => ⟨(p4 k hk).1, ?_⟩, fun k hk => ⟨(p5 k hk).1, ?_⟩⟩
  · rw [e _ (Or.inl ⟨by omega, by omega⟩)] at h1
    obtain ⟨h0, p, q, g1, g2, hp, hq, r1, r2, r3, r4⟩ := (p1 k hk).2 np h1 h2
    refine ⟨h0, p, q, g1, g2, hp, hq, ?_, r2, r3, fun i hi => ?_⟩
    · rw [e _ (Or.inl ⟨by omega, by omega⟩), e _ (Or.inl ⟨by omega, by omega⟩)]; exact r1
    · rw [e _ (Or.inl ⟨by omega, by omega⟩), e _ (Or.inl ⟨by omega, by omega⟩)]; exact r4 i hi
  · obtain ⟨z1, z2, z3, z4, b1, b2, b3, b4, b5, b6, b7⟩ := (p2 k hk).2.2
    refine ⟨z1, z2, z3, z4, ?_, b2, b3, b4, b5, fun i hi => ?_, fun sd hs => ?_⟩
    · rw [e _ (Or.inr (Or.inl ⟨by omega, by omega⟩)), e _ (Or.inr (Or.inl ⟨by omega, by omega⟩))]; exact b1
    · rw [e _ (Or.inr (Or.inl ⟨by omega, by omega⟩))]; exact b6 i hi
    · rw [e _ (Or.inr (Or.inl ⟨by omega, by omega⟩)), e _ (Or.inr (Or.inl ⟨by omega, by omega⟩)), e _ (Or.inr (Or.inl ⟨by omega, by omega⟩))]; exact b7 sd hs
  · obtain ⟨h0, p, z, hp, r1, r2, r3⟩ := (p4 k hk).2
    refine ⟨h0, p, z, hp, ?_, r2, fun i hi => ?_⟩
    · rw [e _ (Or.inr (Or.inr (Or.inl ⟨by omega, by omega⟩))), e _ (Or.inr (Or.inr (Or.inl ⟨by omega, by omega⟩)))]; exact r1
    · rw [e _ (Or.inr (Or.inr (Or.inl ⟨by omega, by omega⟩)))]; exact r3 i hi
  · obtain ⟨h0, r1⟩ := (p5 k hk).2
    refine ⟨h0, ?_⟩
    rw [e _ (Or.inr (Or.inr (Or.inr ⟨by omega, by omega⟩))), e _ (Or.inr (Or.inr (Or.inr ⟨by omega, by omega⟩))), e _ (Or.inr (Or.inr (Or.inr ⟨by omega, by omega⟩))), e _ (Or.inr (Or.inr (Or.inr ⟨by omega, by omega⟩)))]; exact r1
theorem BkP.thing {h : List PE} {R : Nat → Int32} {c : CN} {a : Nat} {Q : QQ} {Z : ZZ} {q : Nat} (x : BkP h R c a Q Z) (hq : ∀ k, k < c.2.1 → Q.2.1 k + 5 ≤ q) (ha : a + 5 ≤ q) (t : ThC h R (164 + 24 * c.2.1) Q.1 q) : BkP h R (c.1, c.2.1 + 1, c.2.2.1, c.2.2.2) a (Q.1, va_up Q.2.1 c.2.1 q, Q.2.2.1, Q.2.2.2) (Z.1, va_up Z.2.1 c.2.1 (some q), Z.2.2.1, Z.2.2.2) := by
  obtain ⟨p1, p2, p3, p4, p5⟩ := x
  refine ⟨p1, fun k hk => ?_, fun k k' h1 h2 => ?_, p4, p5⟩
  · have hk : k < c.2.1 + 1 := hk
    show va_up Z.2.1 c.2.1 (some q) k = some (va_up Q.2.1 c.2.1 q k) ∧ a + 5 ≤ va_up Q.2.1 c.2.1 q k ∧ ThC h R (164 + 24 * k) Q.1 (va_up Q.2.1 c.2.1 q k)
    by_cases e : k = c.2.1
    · subst e; rw [va_up_s, va_up_s]; exact ⟨rfl, ha, t⟩
    · rw [va_up_n e, va_up_n e]; exact p2 k (by omega)
  · have h2 : k' < c.2.1 + 1 := h2
    show va_up Q.2.1 c.2.1 q k + 5 ≤ va_up Q.2.1 c.2.1 q k'
    rw [va_up_n (show k ≠ c.2.1 by omega)]
    by_cases e : k' = c.2.1
    · subst e; rw [va_up_s]; exact hq k h1
    · rw [va_up_n e]; exact p3 k k' h1 (by omega)
theorem BkP.box {h : List PE} {R : Nat → Int32} {c : CN} {a : Nat} {Q : QQ} {Z : ZZ} {q : Nat} (x : BkP h R c a Q Z) (t : BoxAt h R (356 + 6 * c.2.2.1) q) : BkP h R (c.1, c.2.1, c.2.2.1 + 1, c.2.2.2) a (Q.1, Q.2.1, va_up Q.2.2.1 c.2.2.1 q, Q.2.2.2) (Z.1, Z.2.1, va_up Z.2.2.1 c.2.2.1 (some q), Z.2.2.2) := by
  obtain ⟨p1, p2, p3, p4, p5⟩ := x
  refine ⟨p1, p2, p3, fun k hk => ?_, p5⟩
  have hk : k < c.2.2.1 + 1 := hk
  show va_up Z.2.2.1 c.2.2.1 (some q) k = some (va_up Q.2.2.1 c.2.2.1 q k) ∧ BoxAt h R (356 + 6 * k) (va_up Q.2.2.1 c.2.2.1 q k)
  by_cases e : k = c.2.2.1
  · subst e; rw [va_up_s, va_up_s]; exact ⟨rfl, t⟩
  · rw [va_up_n e, va_up_n e]; exact p4 k (by omega)
theorem BkP.drop {h : List PE} {R : Nat → Int32} {c : CN} {a : Nat} {Q : QQ} {Z : ZZ} {q : Nat} (x : BkP h R c a Q Z) (t : DropAt h R (404 + 4 * c.2.2.2) q) : BkP h R (c.1, c.2.1, c.2.2.1, c.2.2.2 + 1) a (Q.1, Q.2.1, Q.2.2.1, va_up Q.2.2.2 c.2.2.2 q) (Z.1, Z.2.1, Z.2.2.1, va_up Z.2.2.2 c.2.2.2 (some q)) := by
  obtain ⟨p1, p2, p3, p4, p5⟩ := x
  refine ⟨p1, p2, p3, p4, fun k hk => ?_⟩
  have hk : k < c.2.2.2 + 1 := hk
  show va_up Z.2.2.2 c.2.2.2 (some q) k = some (va_up Q.2.2.2 c.2.2.2 q k) ∧ DropAt h R (404 + 4 * k) (va_up Q.2.2.2 c.2.2.2 q k)
  by_cases e : k = c.2.2.2
  · subst e; rw [va_up_s, va_up_s]; exact ⟨rfl, t⟩
  · rw [va_up_n e, va_up_n e]; exact p5 k (by omega)
theorem KpT.gr {h h1 : List PE} {L : List Nat} {a b : Nat} (g : Gr h.length L a b h h1) (hL : ∀ j, 51 ≤ j → j ∉ L) : KpT h h1 := fun j z hj _ hz => g.at hz (lt_at hz) (hL j hj)
theorem KpT.sm2 {h h1 : List PE} {x y : Nat} {c1 c2 : PE} (g : Sm [x, y] h h1) (f1 : h[x]? = some c1) (f2 : h[y]? = some c2) (b1 : bkT c1 = true) (b2 : bkT c2 = true) : KpT h h1 := fun j z hj hb hz => g.at hz (fun q => by
  rcases List.mem_cons.mp q with e | q
  · subst e; rw [f1] at hz; cases hz; rw [b1] at hb; exact absurd hb (by decide)
  · have e := List.mem_singleton.mp q
    subst e; rw [f2] at hz; cases hz; rw [b2] at hb; exact absurd hb (by decide))
/-- the reader stands before the TOKEN i; it met the FAULT f -/
def RdS (h : List PE) (i : Nat) (nl : NL') : Prop := (∃ v ft : Int32, h[6]? = some (cO 1 [.ref 7, .ref 12, .ref 13, .ref 14, .int (nI (nl.length)), .int (nI i), .int v, .int ft, .int 0])) ∧ NmC h nl
def Bd (h : List PE) (f : Nat × Nat) : Prop := ∃ nc at9 v : Int32, h[6]? = some (cO 1 [.ref 7, .ref 12, .ref 13, .ref 14, .int nc, .int at9, .int v, .int (nI f.2), .int (nI f.1)])
def N3 (h : List PE) : Prop := ∃ (y12 : Nat → Int64) (y13 y14 : Nat → Int32), h[12]? = some (cJ 24 y12) ∧ h[13]? = some (cI 24 y13) ∧ h[14]? = some (cI 24 y14)
def LnP (h : List PE) (F : Option (Nat × Nat)) (i : Nat) (nl : NL') (R : Nat → Int32) (c : CN) (a ln : Nat) (o : OT) : Prop := Gr a [6, 12, 13, 14] 5 27 h o.2 ∧ match F with
  | some f => o.1 = some (.int 0) ∧ Bd o.2 f ∧ N3 o.2
  | none => o.1 = some (.int 1) ∧ RdS o.2 i nl ∧ BkC o.2 R c a ln
theorem nm6 : ∀ j, 51 ≤ j → j ∉ [6, 12, 13, 14] := fun j hj q => by
  simp at q
  omega

theorem thg_new {h : List PE} {tn nt i q : Nat} {tv : Nat → Nat} {R : Nat → Int32} {fq : Nat → Nat} (f0 : h[q]? = some (cO 9 [.ref (q + 1), .ref (q + 2), .ref (q + 3), .ref (q + 4), .int (nI (nv tn tv (i + 3))), .int (nI (nv tn tv (i + 9)))])) (f1 : h[q + 1]? = some (cI 3 (upd (upd (upd (fun _ => 0) 0 (nI (nv tn tv (i + 5)))) 1 (nI (nv tn tv (i + 6)))) 2 (nI (nv tn tv (i + 7)))))) (f2 : h[q + 2]? = some (cR 4 6 (fun _ => none))) (f3 : h[q + 3]? = some (cI 6 (fun _ => 0))) (f4 : h[q + 4]? = some (cI 6 (fun _ => 0))) : ThC h (thgR tn tv nt i R) (164 + 24 * nt) fq q := by
  have t0 : thgR tn tv nt i R (164 + 24 * nt) = nI (nv tn tv (i + 3)) := if_pos rfl
  have t1 : thgR tn tv nt i R (164 + 24 * nt + 1) = nI (nv tn tv (i + 5)) := by unfold thgR; rw [if_neg (by omega), if_pos rfl]
  have t2 : thgR tn tv nt i R (164 + 24 * nt + 1 + 1) = nI (nv tn tv (i + 6)) := by unfold thgR; rw [if_neg (by omega), if_neg (by omega), if_pos (by omega)]
  have t3 : thgR tn tv nt i R (164 + 24 * nt + 1 + 2) = nI (nv tn tv (i + 7)) := by unfold thgR; rw [if_neg (by omega), if_neg (by omega), if_neg (by omega), if_pos (by omega)]
  have t4 : thgR tn tv nt i R (164 + 24 * nt + 4) = nI (nv tn tv (i + 9)) := by unfold thgR; rw [if_neg (by omega), if_neg (by omega), if_neg (by omega), if_neg (by omega), if_pos rfl]
  have t5 : ∀ j, 164 + 24 * nt + 5 ≤ j → j < 164 + 24 * nt + 24 → thgR tn tv nt i R j = 0 := fun j h1 h2 => by unfold thgR; rw [if_neg (by omega), if_neg (by omega), if_neg (by omega), if_neg (by omega), if_neg (by omega), if_pos ⟨h1, h2⟩]
  refine ⟨_, _, _, _, by rw [t0, t4]; exact f0, f1, f2, f3, f4, fun k hk => ?_, fun sd hs => ?_⟩
  · match k, hk with
    | 0, _ => exact t1.symm
    | 1, _ => exact t2.symm
    | 2, _ => exact t3.symm
  · rw [t5 _ (by omega) (by omega), t5 _ (by omega) (by omega), t5 _ (by omega) (by omega)]
    exact ⟨fun _ => rfl, fun k hk e => absurd e.symm (nI_ne0 (by omega) (by omega)), rfl, rfl⟩

set_option maxRecDepth 100000 in
set_option maxHeartbeats 4000000 in
theorem c_readThing {G : GT} {h : List PE} {tn N i a ln : Nat} {tv : Nat → Nat} {nl : NL'} {c : CN} {R : Nat → Int32} (hTk : TkR h tn tv N) (hi : i ≤ N) (hRd : RdS h i nl) (hB : BkC h R c a ln) (W : WFk R c) (hnl : NlOk nl c) (hk0 : kd tn tv i < 22)  : CT G mX1_readThing 3 67 [.ref 6, .ref a] h (LnP h (thgF tn tv nl c.2.1 i) (i + 10) (nl ++ [(1, c.2.1, wn tn tv (i + 1))]) (thgR tn tv c.2.1 i R) (c.1, c.2.1 + 1, c.2.2.1, c.2.2.2) a ln) := by
  obtain ⟨⟨v, ft, f6⟩, hNm⟩ := id hRd
  obtain ⟨ha51, Q, Z, fa, fz1, fz2, fz3, fz4, hP⟩ := id hB
  have hNm0 := hNm
  obtain ⟨hl24, y12, y13, y14, f12, f13, f14, hy⟩ := hNm0
  have la := lt_at fz4
  have hm : 51 ≤ h.length := by omega
  have w1 := W.2.1
  have w3 := W.2.2.2.1
  have w5 := W.2.2.2.2.2.1
  have w7 := W.2.2.2.2.2.2.2.1
  have hnl1 := hnl.1
  have hi1 : i + 1 ≤ N := by have := (hTk.ki hi).2; omega
  have sm0 : Gr h.length [6, 12, 13, 14] 0 0 h h := Gr.rf
  show X (NF G) G mX1_readThing 3 67 0 [(0, .ref 6), (1, .ref a)] [] h _
  refine x_aload_n dX1_readThing_0 0 rfl ?_
  refine x_aload_n dX1_readThing_1 1 rfl ?_
  refine x_get (v := .int (nI (c.2.1))) dX1_readThing_2 fX1_145 fa (by omega) rfl ?_
  refine x_bipush (v := 8) dX1_readThing_5 (by decide) ?_
  by_cases h8 : 8 ≤ c.2.1
  · refine x_callV (rf' := 1) (rl' := 22) [.int (nI (c.2.1)), .int 8] [] dX1_readThing_7 vX1_100 Y_X1_readFirstWord f6 (by decide) rfl rfl (Nat.le_of_ble_eq_true rfl) (Nat.le_of_ble_eq_true rfl) (by decide) (by decide) (c_firstF (i := i) (show ¬ nI (c.2.1) < nI 8 from fun z => absurd ((nI_ltI (by omega) (by decide)).mp z) (by omega)) f6) (fun r h101 e102 => ?_)
    obtain ⟨sm104, e0, g103⟩ := e102
    cases e0
    have sm104 : Sm [6] h h101 := sm104
    have f105 := sm104.at fa (by first | decide | (simp; omega) | simp | omega)
    have f106 := sm104.at fz2 (by first | decide | (simp; omega) | simp | omega)
    have f107 := sm104.at f12 (by first | decide | (simp; omega) | simp | omega)
    have f108 := sm104.at f13 (by first | decide | (simp; omega) | simp | omega)
    have f109 := sm104.at f14 (by first | decide | (simp; omega) | simp | omega)
    have f110 := sm104.at fz1 (by first | decide | (simp; omega) | simp | omega)
    have f111 := sm104.at fz3 (by first | decide | (simp; omega) | simp | omega)
    have f112 := sm104.at fz4 (by first | decide | (simp; omega) | simp | omega)
    have sm113 := Gr.sm sm0 sm104 (fun x hx => Or.inl (by revert x; decide))
    refine x_if_eq (tgt := 37) dX1_readThing_10 (by decide) (fun c_10 => ?_) (fun c_10 => absurd (by decide) c_10)
    refine x_iconst (v := 0) dX1_readThing_37 (by decide) ?_
    exact x_zret dX1_readThing_38 rfl rfl ⟨Gr.wide (m := a) sm113 (fun x _ hx => hx) (by omega) (by decide) (by decide), by rw [show thgF tn tv nl c.2.1 i = some (4, i) by unfold thgF; rw [if_pos h8]]; exact ⟨rfl, ⟨_, _, _, g103⟩, _, _, _, f107, f108, f109⟩⟩
  · refine x_callV (rf' := 1) (rl' := 22) [.int (nI (c.2.1)), .int 8] [] dX1_readThing_7 vX1_100 Y_X1_readFirstWord f6 (by decide) rfl rfl (Nat.le_of_ble_eq_true rfl) (Nat.le_of_ble_eq_true rfl) (by decide) (by decide) (c_firstS (i := i) (show nI (c.2.1) < nI 8 from (nI_ltI (by omega) (by decide)).mpr (by omega)) f6) (fun r h114 e115 => ?_)
    obtain ⟨sm117, e0, g116⟩ := e115
    cases e0
    have sm117 : Sm [6] h h114 := sm117
    have f118 := sm117.at fa (by first | decide | (simp; omega) | simp | omega)
    have f119 := sm117.at fz2 (by first | decide | (simp; omega) | simp | omega)
    have f120 := sm117.at f12 (by first | decide | (simp; omega) | simp | omega)
    have f121 := sm117.at f13 (by first | decide | (simp; omega) | simp | omega)
    have f122 := sm117.at f14 (by first | decide | (simp; omega) | simp | omega)
    have f123 := sm117.at fz1 (by first | decide | (simp; omega) | simp | omega)
    have f124 := sm117.at fz3 (by first | decide | (simp; omega) | simp | omega)
    have f125 := sm117.at fz4 (by first | decide | (simp; omega) | simp | omega)
    have sm126 := Gr.sm sm0 sm117 (fun x hx => Or.inl (by revert x; decide))
    refine x_if_eq (tgt := 37) dX1_readThing_10 (by decide) (fun c_10 => absurd c_10 (by decide)) (fun c_10 => ?_)
    refine x_aload_n dX1_readThing_13 0 rfl ?_
    refine x_iconst (v := 1) dX1_readThing_14 (by decide) ?_
    refine x_aload_n dX1_readThing_15 1 rfl ?_
    refine x_get (v := .int (nI (c.2.1))) dX1_readThing_16 fX1_145 f118 (by omega) rfl ?_
    refine x_callV (rf' := 2) (rl' := 43) [.int 1, .int (nI (c.2.1))] [] dX1_readThing_19 vX1_103 Y_X1_readNewName g116 (by decide) rfl rfl (Nat.le_of_ble_eq_true rfl) (Nat.le_of_ble_eq_true rfl) (by decide) (by decide) (c_readNewName (k := 1) (c := (c.2.1)) (i := (i + 1)) (hTk.gr sm126 hm (by decide)) (by omega) ⟨hl24, _, _, _, f120, f121, f122, hy⟩ (by omega) (by omega) (by omega) g116) (fun r h127 e128 => ?_)
    obtain ⟨sm131, e128⟩ := e128
    have sm131 : Sm [6, 12, 13, 14] h114 h127 := sm131
    have f133 := sm131.at f118 (by first | decide | (simp; omega) | simp | omega)
    have f134 := sm131.at f119 (by first | decide | (simp; omega) | simp | omega)
    have f135 := sm131.at f123 (by first | decide | (simp; omega) | simp | omega)
    have f136 := sm131.at f124 (by first | decide | (simp; omega) | simp | omega)
    have f137 := sm131.at f125 (by first | decide | (simp; omega) | simp | omega)
    have sm138 := Gr.sm sm126 sm131 (fun x hx => Or.inl (by revert x; decide))
    cases q129 : newF tn tv nl (i + 1) with
    | none =>
      rw [q129] at e128
      obtain ⟨e0, g132, x139⟩ := e128
      cases e0
      have g132 : h127[6]? = some (cO 1 [.ref 7, .ref 12, .ref 13, .ref 14, .int (nI (nl.length + 1)), .int (nI (i + 2)), .int v, .int ft, .int 0]) := g132
      obtain ⟨y140, y141, y142, y143, y144, y145, y146, y147⟩ := id x139
      obtain ⟨hin148, kkq129⟩ := new_lt hTk (by omega) q129
      refine x_if_eq (tgt := 37) dX1_readThing_22 (by decide) (fun c_22 => absurd c_22 (by decide)) (fun c_22 => ?_)
      refine x_aload_n dX1_readThing_25 0 rfl ?_
      refine x_bipush (v := 7) dX1_readThing_26 (by decide) ?_
      refine x_iconst (v := 1) dX1_readThing_28 (by decide) ?_
      refine x_ldc (v := 60000) dX1_readThing_29 kX1_140 ?_
      refine x_callV (rf' := 2) (rl' := 44) [.int 7, .int 1, .int 60000] [] dX1_readThing_31 vX1_113 Y_X1_readNumberOf g132 (by decide) rfl rfl (Nat.le_of_ble_eq_true rfl) (Nat.le_of_ble_eq_true rfl) (by decide) (by decide) (c_readNumberOf (k := 7) (a := 1) (b := 60000) (i := (i + 2)) (hTk.gr sm138 hm (by decide)) (by omega) (by omega) g132) (fun r h149 e150 => ?_)
      obtain ⟨sm153, e150⟩ := e150
      have sm153 : Sm [6] h127 h149 := sm153
      have f155 := sm153.at f133 (by first | decide | (simp; omega) | simp | omega)
      have f156 := sm153.at f134 (by first | decide | (simp; omega) | simp | omega)
      have f157 := sm153.at f135 (by first | decide | (simp; omega) | simp | omega)
      have f158 := sm153.at f136 (by first | decide | (simp; omega) | simp | omega)
      have f159 := sm153.at f137 (by first | decide | (simp; omega) | simp | omega)
      have f160 := sm153.at y144 (by first | decide | (simp; omega) | simp | omega)
      have f161 := sm153.at y145 (by first | decide | (simp; omega) | simp | omega)
      have f162 := sm153.at y146 (by first | decide | (simp; omega) | simp | omega)
      have sm163 := Gr.sm sm138 sm153 (fun x hx => Or.inl (by revert x; decide))
      cases q151 : numOfF tn tv 7 1 60000 (i + 2) with
      | none =>
        rw [q151] at e150
        obtain ⟨e0, g154⟩ := e150
        cases e0
        have g154 : h149[6]? = some (cO 1 [.ref 7, .ref 12, .ref 13, .ref 14, .int (nI (nl.length + 1)), .int (nI (i + 4)), .int (nI (nv tn tv (i + 3))), .int ft, .int 0]) := g154
        obtain ⟨hin164, kkq151⟩ := numOf_lt hTk (by omega) (by omega) q151
        refine x_if_ne (tgt := 39) dX1_readThing_34 (by decide) (fun c_34 => ?_) (fun c_34 => absurd c_34 (by decide))
        refine x_new dX1_readThing_39 nX1_148 (fun h165 q166 ea167 a168 e169 l170 s171 => ?_)
        have lm172 := sm163.2.1
        have f173 := (e169 6 (by have := lt_at g154; omega)).trans g154
        have f174 := (e169 a (by have := lt_at f155; omega)).trans f155
        have f175 := (e169 (a + 2) (by have := lt_at f156; omega)).trans f156
        have f176 := (e169 (a + 1) (by have := lt_at f157; omega)).trans f157
        have f177 := (e169 (a + 3) (by have := lt_at f158; omega)).trans f158
        have f178 := (e169 (a + 4) (by have := lt_at f159; omega)).trans f159
        have f179 := (e169 12 (by have := lt_at f160; omega)).trans f160
        have f180 := (e169 13 (by have := lt_at f161; omega)).trans f161
        have f181 := (e169 14 (by have := lt_at f162; omega)).trans f162
        have sm182 := Gr.new sm163 ea167 e169 l170 s171
        refine x_dup dX1_readThing_42 rfl ?_
        refine x_callIN (rf' := 1) (rl' := 20) [] [.ref q166] dX1_readThing_43 vX1_150 Y_X9_init rfl rfl (Nat.le_of_ble_eq_true rfl) (Nat.le_of_ble_eq_true rfl) (by decide) (by decide) (c_X9_init (by omega) (by omega) a168) (fun r h183 e184 => ?_)
        obtain ⟨e0, l185, g187, g188, g189, g190, g191, gr186⟩ := e184
        cases e0
        have l185 : h183.length = q166 + 5 := l185
        have gr186 : Gr q166 [] 4 21 h165 h183 := gr186
        have f192 := gr186.at f173 (by have := lt_at f173; omega) (by simp)
        have f193 := gr186.at f174 (by have := lt_at f174; omega) (by simp)
        have f194 := gr186.at f175 (by have := lt_at f175; omega) (by simp)
        have f195 := gr186.at f176 (by have := lt_at f176; omega) (by simp)
        have f196 := gr186.at f177 (by have := lt_at f177; omega) (by simp)
        have f197 := gr186.at f178 (by have := lt_at f178; omega) (by simp)
        have f198 := gr186.at f179 (by have := lt_at f179; omega) (by simp)
        have f199 := gr186.at f180 (by have := lt_at f180; omega) (by simp)
        have f200 := gr186.at f181 (by have := lt_at f181; omega) (by simp)
        have sm201 := Gr.tr sm182 gr186 (by simp) (by omega)
        refine x_astore_n (lv2 := [(2, .ref q166), (0, .ref 6), (1, .ref a)]) dX1_readThing_46 (by decide) rfl ?_
        refine x_aload_n dX1_readThing_47 0 rfl ?_
        refine x_aload_n dX1_readThing_48 1 rfl ?_
        refine x_get (v := .int (nI (nv tn tv (i + 3)))) dX1_readThing_49 fX1_38 f192 (by decide) rfl ?_
        refine x_put (fs2 := [.ref (q166 + 1), .ref (q166 + 2), .ref (q166 + 3), .ref (q166 + 4), .int (nI (nv tn tv (i + 3))), .int 0]) dX1_readThing_52 fX1_151 (Or.inl rfl) g187 (by omega) rfl rfl (Nat.le_of_ble_eq_true rfl) rfl (fun h202 a203 e204 l205 s206 => ?_)
        have f207 := (e204 6 (by omega)).trans f192
        have f208 := (e204 a (by omega)).trans f193
        have f209 := (e204 (a + 2) (by omega)).trans f194
        have f210 := (e204 (a + 1) (by omega)).trans f195
        have f211 := (e204 (a + 3) (by omega)).trans f196
        have f212 := (e204 (a + 4) (by omega)).trans f197
        have f213 := (e204 12 (by omega)).trans f198
        have f214 := (e204 13 (by omega)).trans f199
        have f215 := (e204 14 (by omega)).trans f200
        have f216 := (e204 (q166 + 1) (by omega)).trans g188
        have f217 := (e204 (q166 + 2) (by omega)).trans g189
        have f218 := (e204 (q166 + 3) (by omega)).trans g190
        have f219 := (e204 (q166 + 4) (by omega)).trans g191
        have sm220 := Gr.put sm201 e204 l205 s206 (Or.inr (by omega))
        refine x_aload_n dX1_readThing_55 1 rfl ?_
        refine x_bipush (v := 8) dX1_readThing_56 (by decide) ?_
        refine x_aload_n dX1_readThing_58 0 rfl ?_
        refine x_get (v := .ref (q166 + 1)) dX1_readThing_59 fX1_154 a203 (by omega) rfl ?_
        refine x_callV (rf' := 2) (rl' := 44) [.int 8, .ref (q166 + 1)] [] dX1_readThing_62 vX1_157 Y_X1_readSizesOf f207 (by decide) rfl rfl (Nat.le_of_ble_eq_true rfl) (Nat.le_of_ble_eq_true rfl) (by decide) (by decide) (c_readSizesOf (k := 8) (i := (i + 4)) (hTk.gr sm220 hm (by decide)) (by omega) (by omega) (by omega) f207 f216) (fun r h221 e222 => ?_)
        obtain ⟨sm225, e222⟩ := e222
        have sm225 : Sm [6, (q166 + 1)] h202 h221 := sm225
        have f227 := sm225.at f208 (by first | decide | (simp; omega) | simp | omega)
        have f228 := sm225.at f209 (by first | decide | (simp; omega) | simp | omega)
        have f229 := sm225.at f210 (by first | decide | (simp; omega) | simp | omega)
        have f230 := sm225.at f211 (by first | decide | (simp; omega) | simp | omega)
        have f231 := sm225.at f212 (by first | decide | (simp; omega) | simp | omega)
        have f232 := sm225.at f213 (by first | decide | (simp; omega) | simp | omega)
        have f233 := sm225.at f214 (by first | decide | (simp; omega) | simp | omega)
        have f234 := sm225.at f215 (by first | decide | (simp; omega) | simp | omega)
        have f235 := sm225.at a203 (by first | decide | (simp; omega) | simp | omega)
        have f236 := sm225.at f217 (by first | decide | (simp; omega) | simp | omega)
        have f237 := sm225.at f218 (by first | decide | (simp; omega) | simp | omega)
        have f238 := sm225.at f219 (by first | decide | (simp; omega) | simp | omega)
        have sm239 := Gr.sm sm220 sm225 (fun x hx => (List.mem_cons.mp hx).elim (fun e => Or.inl (by subst e; decide)) (fun hx => Or.inr (by have := List.mem_singleton.mp hx; omega)))
        cases q223 : szF tn tv 8 (i + 4) with
        | none =>
          rw [q223] at e222
          obtain ⟨e0, g226, x240⟩ := e222
          cases e0
          have g226 : h221[6]? = some (cO 1 [.ref 7, .ref 12, .ref 13, .ref 14, .int (nI (nl.length + 1)), .int (nI (i + 8)), .int (nI (nv tn tv (i + 7))), .int ft, .int 0]) := g226
          obtain ⟨hin241, kkq223⟩ := sz_lt hTk (by omega) (by omega) q223
          refine x_if_eq (tgt := 80) dX1_readThing_65 (by decide) (fun c_65 => absurd c_65 (by decide)) (fun c_65 => ?_)
          refine x_aload_n dX1_readThing_68 1 rfl ?_
          refine x_bipush (v := 9) dX1_readThing_69 (by decide) ?_
          refine x_iconst (v := 1) dX1_readThing_71 (by decide) ?_
          refine x_ldc (v := 60000) dX1_readThing_72 kX1_140 ?_
          refine x_callV (rf' := 2) (rl' := 44) [.int 9, .int 1, .int 60000] [] dX1_readThing_74 vX1_113 Y_X1_readNumberOf g226 (by decide) rfl rfl (Nat.le_of_ble_eq_true rfl) (Nat.le_of_ble_eq_true rfl) (by decide) (by decide) (c_readNumberOf (k := 9) (a := 1) (b := 60000) (i := (i + 8)) (hTk.gr sm239 hm (by decide)) (by omega) (by omega) g226) (fun r h242 e243 => ?_)
          obtain ⟨sm246, e243⟩ := e243
          have sm246 : Sm [6] h221 h242 := sm246
          have f248 := sm246.at f227 (by first | decide | (simp; omega) | simp | omega)
          have f249 := sm246.at f228 (by first | decide | (simp; omega) | simp | omega)
          have f250 := sm246.at f229 (by first | decide | (simp; omega) | simp | omega)
          have f251 := sm246.at f230 (by first | decide | (simp; omega) | simp | omega)
          have f252 := sm246.at f231 (by first | decide | (simp; omega) | simp | omega)
          have f253 := sm246.at f232 (by first | decide | (simp; omega) | simp | omega)
          have f254 := sm246.at f233 (by first | decide | (simp; omega) | simp | omega)
          have f255 := sm246.at f234 (by first | decide | (simp; omega) | simp | omega)
          have f256 := sm246.at f235 (by first | decide | (simp; omega) | simp | omega)
          have f257 := sm246.at f236 (by first | decide | (simp; omega) | simp | omega)
          have f258 := sm246.at f237 (by first | decide | (simp; omega) | simp | omega)
          have f259 := sm246.at f238 (by first | decide | (simp; omega) | simp | omega)
          have f260 := sm246.at x240 (by first | decide | (simp; omega) | simp | omega)
          have sm261 := Gr.sm sm239 sm246 (fun x hx => Or.inl (by revert x; decide))
          cases q244 : numOfF tn tv 9 1 60000 (i + 8) with
          | none =>
            rw [q244] at e243
            obtain ⟨e0, g247⟩ := e243
            cases e0
            have g247 : h242[6]? = some (cO 1 [.ref 7, .ref 12, .ref 13, .ref 14, .int (nI (nl.length + 1)), .int (nI (i + 10)), .int (nI (nv tn tv (i + 9))), .int ft, .int 0]) := g247
            obtain ⟨hin262, kkq244⟩ := numOf_lt hTk (by omega) (by omega) q244
            refine x_if_ne (tgt := 82) dX1_readThing_77 (by decide) (fun c_77 => ?_) (fun c_77 => absurd c_77 (by decide))
            refine x_aload_n dX1_readThing_82 0 rfl ?_
            refine x_aload_n dX1_readThing_83 1 rfl ?_
            refine x_get (v := .int (nI (nv tn tv (i + 9)))) dX1_readThing_84 fX1_38 g247 (by decide) rfl ?_
            refine x_put (fs2 := [.ref (q166 + 1), .ref (q166 + 2), .ref (q166 + 3), .ref (q166 + 4), .int (nI (nv tn tv (i + 3))), .int (nI (nv tn tv (i + 9)))]) dX1_readThing_87 fX1_161 (Or.inl rfl) f256 (by omega) rfl rfl (Nat.le_of_ble_eq_true rfl) rfl (fun h263 a264 e265 l266 s267 => ?_)
            have f268 := (e265 6 (by omega)).trans g247
            have f269 := (e265 a (by omega)).trans f248
            have f270 := (e265 (a + 2) (by omega)).trans f249
            have f271 := (e265 (a + 1) (by omega)).trans f250
            have f272 := (e265 (a + 3) (by omega)).trans f251
            have f273 := (e265 (a + 4) (by omega)).trans f252
            have f274 := (e265 12 (by omega)).trans f253
            have f275 := (e265 13 (by omega)).trans f254
            have f276 := (e265 14 (by omega)).trans f255
            have f277 := (e265 (q166 + 2) (by omega)).trans f257
            have f278 := (e265 (q166 + 3) (by omega)).trans f258
            have f279 := (e265 (q166 + 4) (by omega)).trans f259
            have f280 := (e265 (q166 + 1) (by omega)).trans f260
            have sm281 := Gr.put sm261 e265 l266 s267 (Or.inr (by omega))
            refine x_aload_n dX1_readThing_90 2 rfl ?_
            refine x_aload_n dX1_readThing_91 0 rfl ?_
            refine x_callV (rf' := 0) (rl' := 0) [.ref q166] [] dX1_readThing_92 vX1_164 Y_X0_addThing f269 (by omega) rfl rfl (Nat.le_of_ble_eq_true rfl) (Nat.le_of_ble_eq_true rfl) (by decide) (by decide) (c_addThing (by omega) (by omega) (by omega) f269 f270 a264) (fun r h282 e283 => ?_)
            obtain ⟨e0, sm9, g0, g1⟩ := e283
            cases e0
            have sm9 : Sm [a, a + 2] h263 h282 := sm9
            have P1 : BkP h263 R c a Q Z := hP.kept ha51 (KpT.gr sm281 nm6)
            have eR : thgF tn tv nl c.2.1 i = none := by unfold thgF; rw [if_neg h8, q129, q151, q223, q244]; rfl
            have ag : ∀ j, relB c j → thgR tn tv c.2.1 i R j = R j := fun j hj => by unfold relB at hj; unfold thgR; rw [if_neg (by omega), if_neg (by omega), if_neg (by omega), if_neg (by omega), if_neg (by omega), if_neg (by omega), if_neg (by omega)]
            have P2 := (P1.rec ag).thing (q := q166) (fun k hk => by have := lt_at ((hP.2.1 k hk).2.2.choose_spec.choose_spec.choose_spec.choose_spec.2.2.2.2.1); omega) (by omega) (thg_new a264 f280 f277 f278 f279)
            have P3 := P2.kept ha51 (KpT.sm2 sm9 f269 f270 rfl rfl)
            have G9 : Gr a [6, 12, 13, 14] 5 27 h h282 := Gr.wide (Gr.sm (Gr.wide (m := a) sm281 (fun x _ hx => hx) (by omega) (Nat.le_refl _) (Nat.le_refl _)) sm9 (fun x hx => Or.inr (by simp at hx; omega))) (fun x _ hx => hx) (Nat.le_refl _) (by decide) (by decide)
            have f284 := sm9.at f268 (by first | decide | (simp; omega) | simp | omega)
            have f285 := sm9.at f271 (by first | decide | (simp; omega) | simp | omega)
            have f286 := sm9.at f272 (by first | decide | (simp; omega) | simp | omega)
            have f287 := sm9.at f273 (by first | decide | (simp; omega) | simp | omega)
            have f288 := sm9.at f274 (by first | decide | (simp; omega) | simp | omega)
            have f289 := sm9.at f275 (by first | decide | (simp; omega) | simp | omega)
            have f290 := sm9.at f276 (by first | decide | (simp; omega) | simp | omega)
            have f291 := sm9.at a264 (by first | decide | (simp; omega) | simp | omega)
            have f292 := sm9.at f277 (by first | decide | (simp; omega) | simp | omega)
            have f293 := sm9.at f278 (by first | decide | (simp; omega) | simp | omega)
            have f294 := sm9.at f279 (by first | decide | (simp; omega) | simp | omega)
            have f295 := sm9.at f280 (by first | decide | (simp; omega) | simp | omega)
            refine x_iconst (v := 1) dX1_readThing_95 (by decide) ?_
            exact x_zret dX1_readThing_96 rfl rfl ⟨G9, by rw [show thgF tn tv nl c.2.1 i = none by unfold thgF; rw [if_neg h8, q129, q151, q223, q244]; rfl]; exact ⟨rfl, ⟨⟨_, _, (by rw [List.length_append]; exact f284)⟩, ⟨y140, _, _, _, f288, f289, f290, y147⟩⟩, ha51, _, (Z.1, va_up Z.2.1 c.2.1 (some q166), Z.2.2.1, Z.2.2.2), g0, f285, g1, f286, f287, P3⟩⟩
          | some fl245 =>
            rw [q244] at e243
            obtain ⟨e0, v296, v297, g247⟩ := e243
            cases e0
            refine x_if_ne (tgt := 82) dX1_readThing_77 (by decide) (fun c_77 => absurd (by decide) c_77) (fun c_77 => ?_)
            refine x_iconst (v := 0) dX1_readThing_80 (by decide) ?_
            exact x_zret dX1_readThing_81 rfl rfl ⟨Gr.wide (m := a) sm261 (fun x _ hx => hx) (by omega) (by decide) (by decide), by rw [show thgF tn tv nl c.2.1 i = some fl245 by unfold thgF; rw [if_neg h8, q129, q151, q223, q244]; rfl]; exact ⟨rfl, ⟨_, _, _, g247⟩, _, _, _, f253, f254, f255⟩⟩
        | some fl224 =>
          rw [q223] at e222
          obtain ⟨e0, v299, v300, g226⟩ := e222
          cases e0
          refine x_if_eq (tgt := 80) dX1_readThing_65 (by decide) (fun c_65 => ?_) (fun c_65 => absurd (by decide) c_65)
          refine x_iconst (v := 0) dX1_readThing_80 (by decide) ?_
          exact x_zret dX1_readThing_81 rfl rfl ⟨Gr.wide (m := a) sm239 (fun x _ hx => hx) (by omega) (by decide) (by decide), by rw [show thgF tn tv nl c.2.1 i = some fl224 by unfold thgF; rw [if_neg h8, q129, q151, q223]; rfl]; exact ⟨rfl, ⟨_, _, _, g226⟩, _, _, _, f232, f233, f234⟩⟩
      | some fl152 =>
        rw [q151] at e150
        obtain ⟨e0, v302, v303, g154⟩ := e150
        cases e0
        refine x_if_ne (tgt := 39) dX1_readThing_34 (by decide) (fun c_34 => absurd (by decide) c_34) (fun c_34 => ?_)
        refine x_iconst (v := 0) dX1_readThing_37 (by decide) ?_
        exact x_zret dX1_readThing_38 rfl rfl ⟨Gr.wide (m := a) sm163 (fun x _ hx => hx) (by omega) (by decide) (by decide), by rw [show thgF tn tv nl c.2.1 i = some fl152 by unfold thgF; rw [if_neg h8, q129, q151]; rfl]; exact ⟨rfl, ⟨_, _, _, g154⟩, _, _, _, f160, f161, f162⟩⟩
    | some fl130 =>
      rw [q129] at e128
      obtain ⟨e0, v305, g132, sx306⟩ := e128
      cases e0
      have sx306 : Sm [6] h114 h127 := sx306
      have f307 := sx306.at f120 (by decide)
      have f308 := sx306.at f121 (by decide)
      have f309 := sx306.at f122 (by decide)
      refine x_if_eq (tgt := 37) dX1_readThing_22 (by decide) (fun c_22 => ?_) (fun c_22 => absurd (by decide) c_22)
      refine x_iconst (v := 0) dX1_readThing_37 (by decide) ?_
      exact x_zret dX1_readThing_38 rfl rfl ⟨Gr.wide (m := a) sm138 (fun x _ hx => hx) (by omega) (by decide) (by decide), by rw [show thgF tn tv nl c.2.1 i = some fl130 by unfold thgF; rw [if_neg h8, q129]; rfl]; exact ⟨rfl, ⟨_, _, _, g132⟩, _, _, _, f307, f308, f309⟩⟩

theorem box_new {h : List PE} {tn nb i q : Nat} {tv : Nat → Nat} {R : Nat → Int32} (hq : 51 ≤ q) (f0 : h[q]? = some (cO 2 [.ref (q + 1), .int (nI (nv tn tv (i + 7))), .int (nI (nv tn tv (i + 9)))])) (f1 : h[q + 1]? = some (cI 3 (upd (upd (upd (fun _ => 0) 0 (nI (nv tn tv (i + 3)))) 1 (nI (nv tn tv (i + 4)))) 2 (nI (nv tn tv (i + 5)))))) : BoxAt h (boxR tn tv nb i R) (356 + 6 * nb) q := by
  have t0 : boxR tn tv nb i R (356 + 6 * nb) = nI (nv tn tv (i + 3)) := if_pos rfl
  have t1 : boxR tn tv nb i R (356 + 6 * nb + 1) = nI (nv tn tv (i + 4)) := by unfold boxR; rw [if_neg (by omega), if_pos rfl]
  have t2 : boxR tn tv nb i R (356 + 6 * nb + 2) = nI (nv tn tv (i + 5)) := by unfold boxR; rw [if_neg (by omega), if_neg (by omega), if_pos rfl]
  have t3 : boxR tn tv nb i R (356 + 6 * nb + 3) = nI (nv tn tv (i + 7)) := by unfold boxR; rw [if_neg (by omega), if_neg (by omega), if_neg (by omega), if_pos rfl]
  have t4 : boxR tn tv nb i R (356 + 6 * nb + 4) = nI (nv tn tv (i + 9)) := by unfold boxR; rw [if_neg (by omega), if_neg (by omega), if_neg (by omega), if_neg (by omega), if_pos rfl]
  refine ⟨hq, q + 1, _, by omega, by rw [t3, t4]; exact f0, f1, fun k hk => ?_⟩
  match k, hk with
  | 0, _ => exact t0.symm
  | 1, _ => exact t1.symm
  | 2, _ => exact t2.symm

set_option maxRecDepth 100000 in
set_option maxHeartbeats 4000000 in
theorem c_readBox {G : GT} {h : List PE} {tn N i a ln : Nat} {tv : Nat → Nat} {nl : NL'} {c : CN} {R : Nat → Int32} (hTk : TkR h tn tv N) (hi : i ≤ N) (hRd : RdS h i nl) (hB : BkC h R c a ln) (W : WFk R c) (hnl : NlOk nl c) (hk0 : kd tn tv i < 22)  : CT G mX1_readBox 3 67 [.ref 6, .ref a] h (LnP h (boxF tn tv nl c.2.2.1 i) (i + 10) (nl ++ [(2, c.2.2.1, wn tn tv (i + 1))]) (boxR tn tv c.2.2.1 i R) (c.1, c.2.1, c.2.2.1 + 1, c.2.2.2) a ln) := by
  obtain ⟨⟨v, ft, f6⟩, hNm⟩ := id hRd
  obtain ⟨ha51, Q, Z, fa, fz1, fz2, fz3, fz4, hP⟩ := id hB
  have hNm0 := hNm
  obtain ⟨hl24, y12, y13, y14, f12, f13, f14, hy⟩ := hNm0
  have la := lt_at fz4
  have hm : 51 ≤ h.length := by omega
  have w1 := W.2.1
  have w3 := W.2.2.2.1
  have w5 := W.2.2.2.2.2.1
  have w7 := W.2.2.2.2.2.2.2.1
  have hnl1 := hnl.1
  have hi1 : i + 1 ≤ N := by have := (hTk.ki hi).2; omega
  have sm0 : Gr h.length [6, 12, 13, 14] 0 0 h h := Gr.rf
  show X (NF G) G mX1_readBox 3 67 0 [(0, .ref 6), (1, .ref a)] [] h _
  refine x_aload_n dX1_readBox_0 0 rfl ?_
  refine x_aload_n dX1_readBox_1 1 rfl ?_
  refine x_get (v := .int (nI (c.2.2.1))) dX1_readBox_2 fX1_168 fa (by omega) rfl ?_
  refine x_bipush (v := 8) dX1_readBox_5 (by decide) ?_
  by_cases h8 : 8 ≤ c.2.2.1
  · refine x_callV (rf' := 1) (rl' := 22) [.int (nI (c.2.2.1)), .int 8] [] dX1_readBox_7 vX1_100 Y_X1_readFirstWord f6 (by decide) rfl rfl (Nat.le_of_ble_eq_true rfl) (Nat.le_of_ble_eq_true rfl) (by decide) (by decide) (c_firstF (i := i) (show ¬ nI (c.2.2.1) < nI 8 from fun z => absurd ((nI_ltI (by omega) (by decide)).mp z) (by omega)) f6) (fun r h101 e102 => ?_)
    obtain ⟨sm104, e0, g103⟩ := e102
    cases e0
    have sm104 : Sm [6] h h101 := sm104
    have f105 := sm104.at fa (by first | decide | (simp; omega) | simp | omega)
    have f106 := sm104.at fz3 (by first | decide | (simp; omega) | simp | omega)
    have f107 := sm104.at f12 (by first | decide | (simp; omega) | simp | omega)
    have f108 := sm104.at f13 (by first | decide | (simp; omega) | simp | omega)
    have f109 := sm104.at f14 (by first | decide | (simp; omega) | simp | omega)
    have f110 := sm104.at fz1 (by first | decide | (simp; omega) | simp | omega)
    have f111 := sm104.at fz2 (by first | decide | (simp; omega) | simp | omega)
    have f112 := sm104.at fz4 (by first | decide | (simp; omega) | simp | omega)
    have sm113 := Gr.sm sm0 sm104 (fun x hx => Or.inl (by revert x; decide))
    refine x_if_eq (tgt := 25) dX1_readBox_10 (by decide) (fun c_10 => ?_) (fun c_10 => absurd (by decide) c_10)
    refine x_iconst (v := 0) dX1_readBox_25 (by decide) ?_
    exact x_zret dX1_readBox_26 rfl rfl ⟨Gr.wide (m := a) sm113 (fun x _ hx => hx) (by omega) (by decide) (by decide), by rw [show boxF tn tv nl c.2.2.1 i = some (4, i) by unfold boxF; rw [if_pos h8]]; exact ⟨rfl, ⟨_, _, _, g103⟩, _, _, _, f107, f108, f109⟩⟩
  · refine x_callV (rf' := 1) (rl' := 22) [.int (nI (c.2.2.1)), .int 8] [] dX1_readBox_7 vX1_100 Y_X1_readFirstWord f6 (by decide) rfl rfl (Nat.le_of_ble_eq_true rfl) (Nat.le_of_ble_eq_true rfl) (by decide) (by decide) (c_firstS (i := i) (show nI (c.2.2.1) < nI 8 from (nI_ltI (by omega) (by decide)).mpr (by omega)) f6) (fun r h114 e115 => ?_)
    obtain ⟨sm117, e0, g116⟩ := e115
    cases e0
    have sm117 : Sm [6] h h114 := sm117
    have f118 := sm117.at fa (by first | decide | (simp; omega) | simp | omega)
    have f119 := sm117.at fz3 (by first | decide | (simp; omega) | simp | omega)
    have f120 := sm117.at f12 (by first | decide | (simp; omega) | simp | omega)
    have f121 := sm117.at f13 (by first | decide | (simp; omega) | simp | omega)
    have f122 := sm117.at f14 (by first | decide | (simp; omega) | simp | omega)
    have f123 := sm117.at fz1 (by first | decide | (simp; omega) | simp | omega)
    have f124 := sm117.at fz2 (by first | decide | (simp; omega) | simp | omega)
    have f125 := sm117.at fz4 (by first | decide | (simp; omega) | simp | omega)
    have sm126 := Gr.sm sm0 sm117 (fun x hx => Or.inl (by revert x; decide))
    refine x_if_eq (tgt := 25) dX1_readBox_10 (by decide) (fun c_10 => absurd c_10 (by decide)) (fun c_10 => ?_)
    refine x_aload_n dX1_readBox_13 0 rfl ?_
    refine x_iconst (v := 2) dX1_readBox_14 (by decide) ?_
    refine x_aload_n dX1_readBox_15 1 rfl ?_
    refine x_get (v := .int (nI (c.2.2.1))) dX1_readBox_16 fX1_168 f118 (by omega) rfl ?_
    refine x_callV (rf' := 2) (rl' := 43) [.int 2, .int (nI (c.2.2.1))] [] dX1_readBox_19 vX1_103 Y_X1_readNewName g116 (by decide) rfl rfl (Nat.le_of_ble_eq_true rfl) (Nat.le_of_ble_eq_true rfl) (by decide) (by decide) (c_readNewName (k := 2) (c := (c.2.2.1)) (i := (i + 1)) (hTk.gr sm126 hm (by decide)) (by omega) ⟨hl24, _, _, _, f120, f121, f122, hy⟩ (by omega) (by omega) (by omega) g116) (fun r h127 e128 => ?_)
    obtain ⟨sm131, e128⟩ := e128
    have sm131 : Sm [6, 12, 13, 14] h114 h127 := sm131
    have f133 := sm131.at f118 (by first | decide | (simp; omega) | simp | omega)
    have f134 := sm131.at f119 (by first | decide | (simp; omega) | simp | omega)
    have f135 := sm131.at f123 (by first | decide | (simp; omega) | simp | omega)
    have f136 := sm131.at f124 (by first | decide | (simp; omega) | simp | omega)
    have f137 := sm131.at f125 (by first | decide | (simp; omega) | simp | omega)
    have sm138 := Gr.sm sm126 sm131 (fun x hx => Or.inl (by revert x; decide))
    cases q129 : newF tn tv nl (i + 1) with
    | none =>
      rw [q129] at e128
      obtain ⟨e0, g132, x139⟩ := e128
      cases e0
      have g132 : h127[6]? = some (cO 1 [.ref 7, .ref 12, .ref 13, .ref 14, .int (nI (nl.length + 1)), .int (nI (i + 2)), .int v, .int ft, .int 0]) := g132
      obtain ⟨y140, y141, y142, y143, y144, y145, y146, y147⟩ := id x139
      obtain ⟨hin148, kkq129⟩ := new_lt hTk (by omega) q129
      refine x_if_ne (tgt := 27) dX1_readBox_22 (by decide) (fun c_22 => ?_) (fun c_22 => absurd c_22 (by decide))
      refine x_new dX1_readBox_27 nX1_171 (fun h149 q150 ea151 a152 e153 l154 s155 => ?_)
      have lm156 := sm138.2.1
      have f157 := (e153 6 (by have := lt_at g132; omega)).trans g132
      have f158 := (e153 a (by have := lt_at f133; omega)).trans f133
      have f159 := (e153 (a + 3) (by have := lt_at f134; omega)).trans f134
      have f160 := (e153 (a + 1) (by have := lt_at f135; omega)).trans f135
      have f161 := (e153 (a + 2) (by have := lt_at f136; omega)).trans f136
      have f162 := (e153 (a + 4) (by have := lt_at f137; omega)).trans f137
      have f163 := (e153 12 (by have := lt_at y144; omega)).trans y144
      have f164 := (e153 13 (by have := lt_at y145; omega)).trans y145
      have f165 := (e153 14 (by have := lt_at y146; omega)).trans y146
      have sm166 := Gr.new sm138 ea151 e153 l154 s155
      refine x_dup dX1_readBox_30 rfl ?_
      refine x_callIN (rf' := 1) (rl' := 20) [] [.ref q150] dX1_readBox_31 vX1_173 Y_X2_init rfl rfl (Nat.le_of_ble_eq_true rfl) (Nat.le_of_ble_eq_true rfl) (by decide) (by decide) (c_X2_init (by omega) (by omega) a152) (fun r h167 e168 => ?_)
      obtain ⟨e0, l169, g171, g172, gr170⟩ := e168
      cases e0
      have l169 : h167.length = q150 + 2 := l169
      have gr170 : Gr q150 [] 1 3 h149 h167 := gr170
      have f173 := gr170.at f157 (by have := lt_at f157; omega) (by simp)
      have f174 := gr170.at f158 (by have := lt_at f158; omega) (by simp)
      have f175 := gr170.at f159 (by have := lt_at f159; omega) (by simp)
      have f176 := gr170.at f160 (by have := lt_at f160; omega) (by simp)
      have f177 := gr170.at f161 (by have := lt_at f161; omega) (by simp)
      have f178 := gr170.at f162 (by have := lt_at f162; omega) (by simp)
      have f179 := gr170.at f163 (by have := lt_at f163; omega) (by simp)
      have f180 := gr170.at f164 (by have := lt_at f164; omega) (by simp)
      have f181 := gr170.at f165 (by have := lt_at f165; omega) (by simp)
      have sm182 := Gr.tr sm166 gr170 (by simp) (by omega)
      refine x_astore_n (lv2 := [(2, .ref q150), (0, .ref 6), (1, .ref a)]) dX1_readBox_34 (by decide) rfl ?_
      refine x_aload_n dX1_readBox_35 1 rfl ?_
      refine x_bipush (v := 10) dX1_readBox_36 (by decide) ?_
      refine x_aload_n dX1_readBox_38 0 rfl ?_
      refine x_get (v := .ref (q150 + 1)) dX1_readBox_39 fX1_174 g171 (by omega) rfl ?_
      refine x_callV (rf' := 2) (rl' := 44) [.int 10, .ref (q150 + 1)] [] dX1_readBox_42 vX1_157 Y_X1_readSizesOf f173 (by decide) rfl rfl (Nat.le_of_ble_eq_true rfl) (Nat.le_of_ble_eq_true rfl) (by decide) (by decide) (c_readSizesOf (k := 10) (i := (i + 2)) (hTk.gr sm182 hm (by decide)) (by omega) (by omega) (by omega) f173 g172) (fun r h183 e184 => ?_)
      obtain ⟨sm187, e184⟩ := e184
      have sm187 : Sm [6, (q150 + 1)] h167 h183 := sm187
      have f189 := sm187.at f174 (by first | decide | (simp; omega) | simp | omega)
      have f190 := sm187.at f175 (by first | decide | (simp; omega) | simp | omega)
      have f191 := sm187.at f176 (by first | decide | (simp; omega) | simp | omega)
      have f192 := sm187.at f177 (by first | decide | (simp; omega) | simp | omega)
      have f193 := sm187.at f178 (by first | decide | (simp; omega) | simp | omega)
      have f194 := sm187.at f179 (by first | decide | (simp; omega) | simp | omega)
      have f195 := sm187.at f180 (by first | decide | (simp; omega) | simp | omega)
      have f196 := sm187.at f181 (by first | decide | (simp; omega) | simp | omega)
      have f197 := sm187.at g171 (by first | decide | (simp; omega) | simp | omega)
      have sm198 := Gr.sm sm182 sm187 (fun x hx => (List.mem_cons.mp hx).elim (fun e => Or.inl (by subst e; decide)) (fun hx => Or.inr (by have := List.mem_singleton.mp hx; omega)))
      cases q185 : szF tn tv 10 (i + 2) with
      | none =>
        rw [q185] at e184
        obtain ⟨e0, g188, x199⟩ := e184
        cases e0
        have g188 : h183[6]? = some (cO 1 [.ref 7, .ref 12, .ref 13, .ref 14, .int (nI (nl.length + 1)), .int (nI (i + 6)), .int (nI (nv tn tv (i + 5))), .int ft, .int 0]) := g188
        obtain ⟨hin200, kkq185⟩ := sz_lt hTk (by omega) (by omega) q185
        refine x_if_eq (tgt := 61) dX1_readBox_45 (by decide) (fun c_45 => absurd c_45 (by decide)) (fun c_45 => ?_)
        refine x_aload_n dX1_readBox_48 1 rfl ?_
        refine x_bipush (v := 6) dX1_readBox_49 (by decide) ?_
        refine x_iconst (v := 0) dX1_readBox_51 (by decide) ?_
        refine x_sipush (v := 10000) dX1_readBox_52 (by decide) ?_
        refine x_callV (rf' := 2) (rl' := 44) [.int 6, .int 0, .int 10000] [] dX1_readBox_55 vX1_113 Y_X1_readNumberOf g188 (by decide) rfl rfl (Nat.le_of_ble_eq_true rfl) (Nat.le_of_ble_eq_true rfl) (by decide) (by decide) (c_readNumberOf (k := 6) (a := 0) (b := 10000) (i := (i + 6)) (hTk.gr sm198 hm (by decide)) (by omega) (by omega) g188) (fun r h201 e202 => ?_)
        obtain ⟨sm205, e202⟩ := e202
        have sm205 : Sm [6] h183 h201 := sm205
        have f207 := sm205.at f189 (by first | decide | (simp; omega) | simp | omega)
        have f208 := sm205.at f190 (by first | decide | (simp; omega) | simp | omega)
        have f209 := sm205.at f191 (by first | decide | (simp; omega) | simp | omega)
        have f210 := sm205.at f192 (by first | decide | (simp; omega) | simp | omega)
        have f211 := sm205.at f193 (by first | decide | (simp; omega) | simp | omega)
        have f212 := sm205.at f194 (by first | decide | (simp; omega) | simp | omega)
        have f213 := sm205.at f195 (by first | decide | (simp; omega) | simp | omega)
        have f214 := sm205.at f196 (by first | decide | (simp; omega) | simp | omega)
        have f215 := sm205.at f197 (by first | decide | (simp; omega) | simp | omega)
        have f216 := sm205.at x199 (by first | decide | (simp; omega) | simp | omega)
        have sm217 := Gr.sm sm198 sm205 (fun x hx => Or.inl (by revert x; decide))
        cases q203 : numOfF tn tv 6 0 10000 (i + 6) with
        | none =>
          rw [q203] at e202
          obtain ⟨e0, g206⟩ := e202
          cases e0
          have g206 : h201[6]? = some (cO 1 [.ref 7, .ref 12, .ref 13, .ref 14, .int (nI (nl.length + 1)), .int (nI (i + 8)), .int (nI (nv tn tv (i + 7))), .int ft, .int 0]) := g206
          obtain ⟨hin218, kkq203⟩ := numOf_lt hTk (by omega) (by omega) q203
          refine x_if_ne (tgt := 63) dX1_readBox_58 (by decide) (fun c_58 => ?_) (fun c_58 => absurd c_58 (by decide))
          refine x_aload_n dX1_readBox_63 0 rfl ?_
          refine x_aload_n dX1_readBox_64 1 rfl ?_
          refine x_get (v := .int (nI (nv tn tv (i + 7)))) dX1_readBox_65 fX1_38 g206 (by decide) rfl ?_
          refine x_put (fs2 := [.ref (q150 + 1), .int (nI (nv tn tv (i + 7))), .int 0]) dX1_readBox_68 fX1_177 (Or.inl rfl) f215 (by omega) rfl rfl (Nat.le_of_ble_eq_true rfl) rfl (fun h219 a220 e221 l222 s223 => ?_)
          have f224 := (e221 6 (by omega)).trans g206
          have f225 := (e221 a (by omega)).trans f207
          have f226 := (e221 (a + 3) (by omega)).trans f208
          have f227 := (e221 (a + 1) (by omega)).trans f209
          have f228 := (e221 (a + 2) (by omega)).trans f210
          have f229 := (e221 (a + 4) (by omega)).trans f211
          have f230 := (e221 12 (by omega)).trans f212
          have f231 := (e221 13 (by omega)).trans f213
          have f232 := (e221 14 (by omega)).trans f214
          have f233 := (e221 (q150 + 1) (by omega)).trans f216
          have sm234 := Gr.put sm217 e221 l222 s223 (Or.inr (by omega))
          refine x_aload_n dX1_readBox_71 1 rfl ?_
          refine x_bipush (v := 11) dX1_readBox_72 (by decide) ?_
          refine x_iconst (v := 1) dX1_readBox_74 (by decide) ?_
          refine x_ldc (v := 60000) dX1_readBox_75 kX1_140 ?_
          refine x_callV (rf' := 2) (rl' := 44) [.int 11, .int 1, .int 60000] [] dX1_readBox_77 vX1_113 Y_X1_readNumberOf f224 (by decide) rfl rfl (Nat.le_of_ble_eq_true rfl) (Nat.le_of_ble_eq_true rfl) (by decide) (by decide) (c_readNumberOf (k := 11) (a := 1) (b := 60000) (i := (i + 8)) (hTk.gr sm234 hm (by decide)) (by omega) (by omega) f224) (fun r h235 e236 => ?_)
          obtain ⟨sm239, e236⟩ := e236
          have sm239 : Sm [6] h219 h235 := sm239
          have f241 := sm239.at f225 (by first | decide | (simp; omega) | simp | omega)
          have f242 := sm239.at f226 (by first | decide | (simp; omega) | simp | omega)
          have f243 := sm239.at f227 (by first | decide | (simp; omega) | simp | omega)
          have f244 := sm239.at f228 (by first | decide | (simp; omega) | simp | omega)
          have f245 := sm239.at f229 (by first | decide | (simp; omega) | simp | omega)
          have f246 := sm239.at f230 (by first | decide | (simp; omega) | simp | omega)
          have f247 := sm239.at f231 (by first | decide | (simp; omega) | simp | omega)
          have f248 := sm239.at f232 (by first | decide | (simp; omega) | simp | omega)
          have f249 := sm239.at a220 (by first | decide | (simp; omega) | simp | omega)
          have f250 := sm239.at f233 (by first | decide | (simp; omega) | simp | omega)
          have sm251 := Gr.sm sm234 sm239 (fun x hx => Or.inl (by revert x; decide))
          cases q237 : numOfF tn tv 11 1 60000 (i + 8) with
          | none =>
            rw [q237] at e236
            obtain ⟨e0, g240⟩ := e236
            cases e0
            have g240 : h235[6]? = some (cO 1 [.ref 7, .ref 12, .ref 13, .ref 14, .int (nI (nl.length + 1)), .int (nI (i + 10)), .int (nI (nv tn tv (i + 9))), .int ft, .int 0]) := g240
            obtain ⟨hin252, kkq237⟩ := numOf_lt hTk (by omega) (by omega) q237
            refine x_if_ne (tgt := 85) dX1_readBox_80 (by decide) (fun c_80 => ?_) (fun c_80 => absurd c_80 (by decide))
            refine x_aload_n dX1_readBox_85 0 rfl ?_
            refine x_aload_n dX1_readBox_86 1 rfl ?_
            refine x_get (v := .int (nI (nv tn tv (i + 9)))) dX1_readBox_87 fX1_38 g240 (by decide) rfl ?_
            refine x_put (fs2 := [.ref (q150 + 1), .int (nI (nv tn tv (i + 7))), .int (nI (nv tn tv (i + 9)))]) dX1_readBox_90 fX1_178 (Or.inl rfl) f249 (by omega) rfl rfl (Nat.le_of_ble_eq_true rfl) rfl (fun h253 a254 e255 l256 s257 => ?_)
            have f258 := (e255 6 (by omega)).trans g240
            have f259 := (e255 a (by omega)).trans f241
            have f260 := (e255 (a + 3) (by omega)).trans f242
            have f261 := (e255 (a + 1) (by omega)).trans f243
            have f262 := (e255 (a + 2) (by omega)).trans f244
            have f263 := (e255 (a + 4) (by omega)).trans f245
            have f264 := (e255 12 (by omega)).trans f246
            have f265 := (e255 13 (by omega)).trans f247
            have f266 := (e255 14 (by omega)).trans f248
            have f267 := (e255 (q150 + 1) (by omega)).trans f250
            have sm268 := Gr.put sm251 e255 l256 s257 (Or.inr (by omega))
            refine x_aload_n dX1_readBox_93 2 rfl ?_
            refine x_aload_n dX1_readBox_94 0 rfl ?_
            refine x_callV (rf' := 0) (rl' := 0) [.ref q150] [] dX1_readBox_95 vX1_181 Y_X0_addBox f259 (by omega) rfl rfl (Nat.le_of_ble_eq_true rfl) (Nat.le_of_ble_eq_true rfl) (by decide) (by decide) (c_addBox (by omega) (by omega) (by omega) f259 f260 a254) (fun r h269 e270 => ?_)
            obtain ⟨e0, sm9, g0, g1⟩ := e270
            cases e0
            have sm9 : Sm [a, a + 3] h253 h269 := sm9
            have P1 : BkP h253 R c a Q Z := hP.kept ha51 (KpT.gr sm268 nm6)
            have ag : ∀ j, relB c j → boxR tn tv c.2.2.1 i R j = R j := fun j hj => by unfold relB at hj; unfold boxR; rw [if_neg (by omega), if_neg (by omega), if_neg (by omega), if_neg (by omega), if_neg (by omega), if_neg (by omega)]
            have P2 := (P1.rec ag).box (q := q150) (box_new (by omega) a254 f267)
            have P3 := P2.kept ha51 (KpT.sm2 sm9 f259 f260 rfl rfl)
            have G9 : Gr a [6, 12, 13, 14] 5 27 h h269 := Gr.wide (Gr.sm (Gr.wide (m := a) sm268 (fun x _ hx => hx) (by omega) (Nat.le_refl _) (Nat.le_refl _)) sm9 (fun x hx => Or.inr (by simp at hx; omega))) (fun x _ hx => hx) (Nat.le_refl _) (by decide) (by decide)
            have f271 := sm9.at f258 (by first | decide | (simp; omega) | simp | omega)
            have f272 := sm9.at f261 (by first | decide | (simp; omega) | simp | omega)
            have f273 := sm9.at f262 (by first | decide | (simp; omega) | simp | omega)
            have f274 := sm9.at f263 (by first | decide | (simp; omega) | simp | omega)
            have f275 := sm9.at f264 (by first | decide | (simp; omega) | simp | omega)
            have f276 := sm9.at f265 (by first | decide | (simp; omega) | simp | omega)
            have f277 := sm9.at f266 (by first | decide | (simp; omega) | simp | omega)
            have f278 := sm9.at a254 (by first | decide | (simp; omega) | simp | omega)
            have f279 := sm9.at f267 (by first | decide | (simp; omega) | simp | omega)
            refine x_iconst (v := 1) dX1_readBox_98 (by decide) ?_
            exact x_zret dX1_readBox_99 rfl rfl ⟨G9, by rw [show boxF tn tv nl c.2.2.1 i = none by unfold boxF; rw [if_neg h8, q129, q185, q203, q237]; rfl]; exact ⟨rfl, ⟨⟨_, _, (by rw [List.length_append]; exact f271)⟩, ⟨y140, _, _, _, f275, f276, f277, y147⟩⟩, ha51, _, (Z.1, Z.2.1, va_up Z.2.2.1 c.2.2.1 (some q150), Z.2.2.2), g0, f272, f273, g1, f274, P3⟩⟩
          | some fl238 =>
            rw [q237] at e236
            obtain ⟨e0, v280, v281, g240⟩ := e236
            cases e0
            refine x_if_ne (tgt := 85) dX1_readBox_80 (by decide) (fun c_80 => absurd (by decide) c_80) (fun c_80 => ?_)
            refine x_iconst (v := 0) dX1_readBox_83 (by decide) ?_
            exact x_zret dX1_readBox_84 rfl rfl ⟨Gr.wide (m := a) sm251 (fun x _ hx => hx) (by omega) (by decide) (by decide), by rw [show boxF tn tv nl c.2.2.1 i = some fl238 by unfold boxF; rw [if_neg h8, q129, q185, q203, q237]; rfl]; exact ⟨rfl, ⟨_, _, _, g240⟩, _, _, _, f246, f247, f248⟩⟩
        | some fl204 =>
          rw [q203] at e202
          obtain ⟨e0, v283, v284, g206⟩ := e202
          cases e0
          refine x_if_ne (tgt := 63) dX1_readBox_58 (by decide) (fun c_58 => absurd (by decide) c_58) (fun c_58 => ?_)
          refine x_iconst (v := 0) dX1_readBox_61 (by decide) ?_
          exact x_zret dX1_readBox_62 rfl rfl ⟨Gr.wide (m := a) sm217 (fun x _ hx => hx) (by omega) (by decide) (by decide), by rw [show boxF tn tv nl c.2.2.1 i = some fl204 by unfold boxF; rw [if_neg h8, q129, q185, q203]; rfl]; exact ⟨rfl, ⟨_, _, _, g206⟩, _, _, _, f212, f213, f214⟩⟩
      | some fl186 =>
        rw [q185] at e184
        obtain ⟨e0, v286, v287, g188⟩ := e184
        cases e0
        refine x_if_eq (tgt := 61) dX1_readBox_45 (by decide) (fun c_45 => ?_) (fun c_45 => absurd (by decide) c_45)
        refine x_iconst (v := 0) dX1_readBox_61 (by decide) ?_
        exact x_zret dX1_readBox_62 rfl rfl ⟨Gr.wide (m := a) sm198 (fun x _ hx => hx) (by omega) (by decide) (by decide), by rw [show boxF tn tv nl c.2.2.1 i = some fl186 by unfold boxF; rw [if_neg h8, q129, q185]; rfl]; exact ⟨rfl, ⟨_, _, _, g188⟩, _, _, _, f194, f195, f196⟩⟩
    | some fl130 =>
      rw [q129] at e128
      obtain ⟨e0, v289, g132, sx290⟩ := e128
      cases e0
      have sx290 : Sm [6] h114 h127 := sx290
      have f291 := sx290.at f120 (by decide)
      have f292 := sx290.at f121 (by decide)
      have f293 := sx290.at f122 (by decide)
      refine x_if_ne (tgt := 27) dX1_readBox_22 (by decide) (fun c_22 => absurd (by decide) c_22) (fun c_22 => ?_)
      refine x_iconst (v := 0) dX1_readBox_25 (by decide) ?_
      exact x_zret dX1_readBox_26 rfl rfl ⟨Gr.wide (m := a) sm138 (fun x _ hx => hx) (by omega) (by decide) (by decide), by rw [show boxF tn tv nl c.2.2.1 i = some fl130 by unfold boxF; rw [if_neg h8, q129]; rfl]; exact ⟨rfl, ⟨_, _, _, g132⟩, _, _, _, f291, f292, f293⟩⟩

theorem drp_new {h : List PE} {tn nd i q : Nat} {tv : Nat → Nat} {nl : NL'} {R : Nat → Int32} (hq : 51 ≤ q) (f0 : h[q]? = some (cO 5 [.int (nI (tldV tn tv nl (i + 1))), .int (nI (nv tn tv (i + 3))), .int (nI (nv tn tv (i + 5))), .int (if kd tn tv (i + 6) = 16 then nI (nv tn tv (i + 7)) else 1)])) : DropAt h (drpR tn tv nl nd i R) (404 + 4 * nd) q := by
  have t0 : drpR tn tv nl nd i R (404 + 4 * nd) = nI (tldV tn tv nl (i + 1)) := if_pos rfl
  have t1 : drpR tn tv nl nd i R (404 + 4 * nd + 1) = nI (nv tn tv (i + 3)) := by unfold drpR; rw [if_neg (by omega), if_pos rfl]
  have t2 : drpR tn tv nl nd i R (404 + 4 * nd + 2) = nI (nv tn tv (i + 5)) := by unfold drpR; rw [if_neg (by omega), if_neg (by omega), if_pos rfl]
  have t3 : drpR tn tv nl nd i R (404 + 4 * nd + 3) = (if kd tn tv (i + 6) = 16 then nI (nv tn tv (i + 7)) else 1) := by unfold drpR; rw [if_neg (by omega), if_neg (by omega), if_neg (by omega), if_pos rfl]
  exact ⟨hq, by rw [t0, t1, t2, t3]; exact f0⟩

set_option maxRecDepth 100000 in
set_option maxHeartbeats 4000000 in
theorem c_readDrop {G : GT} {h : List PE} {tn N i a ln : Nat} {tv : Nat → Nat} {nl : NL'} {c : CN} {R : Nat → Int32} (hTk : TkR h tn tv N) (hi : i ≤ N) (hRd : RdS h i nl) (hB : BkC h R c a ln) (W : WFk R c) (hnl : NlOk nl c) (hk0 : kd tn tv i < 22)  : CT G mX1_readDrop 3 67 [.ref 6, .ref a] h (LnP h (drpF tn tv nl c.2.2.2 i) (drpI tn tv i) nl (drpR tn tv nl c.2.2.2 i R) (c.1, c.2.1, c.2.2.1, c.2.2.2 + 1) a ln) := by
  obtain ⟨⟨v, ft, f6⟩, hNm⟩ := id hRd
  obtain ⟨ha51, Q, Z, fa, fz1, fz2, fz3, fz4, hP⟩ := id hB
  have hNm0 := hNm
  obtain ⟨hl24, y12, y13, y14, f12, f13, f14, hy⟩ := hNm0
  have la := lt_at fz4
  have hm : 51 ≤ h.length := by omega
  have w1 := W.2.1
  have w3 := W.2.2.2.1
  have w5 := W.2.2.2.2.2.1
  have w7 := W.2.2.2.2.2.2.2.1
  have hnl1 := hnl.1
  have hi1 : i + 1 ≤ N := by have := (hTk.ki hi).2; omega
  have sm0 : Gr h.length [6, 12, 13, 14] 0 0 h h := Gr.rf
  show X (NF G) G mX1_readDrop 3 67 0 [(0, .ref 6), (1, .ref a)] [] h _
  refine x_aload_n dX1_readDrop_0 0 rfl ?_
  refine x_aload_n dX1_readDrop_1 1 rfl ?_
  refine x_get (v := .int (nI (c.2.2.2))) dX1_readDrop_2 fX1_203 fa (by omega) rfl ?_
  refine x_bipush (v := 20) dX1_readDrop_5 (by decide) ?_
  by_cases h8 : 20 ≤ c.2.2.2
  · refine x_callV (rf' := 1) (rl' := 22) [.int (nI (c.2.2.2)), .int 20] [] dX1_readDrop_7 vX1_100 Y_X1_readFirstWord f6 (by decide) rfl rfl (Nat.le_of_ble_eq_true rfl) (Nat.le_of_ble_eq_true rfl) (by decide) (by decide) (c_firstF (i := i) (show ¬ nI (c.2.2.2) < nI 20 from fun z => absurd ((nI_ltI (by omega) (by decide)).mp z) (by omega)) f6) (fun r h101 e102 => ?_)
    obtain ⟨sm104, e0, g103⟩ := e102
    cases e0
    have sm104 : Sm [6] h h101 := sm104
    have f105 := sm104.at fa (by first | decide | (simp; omega) | simp | omega)
    have f106 := sm104.at fz4 (by first | decide | (simp; omega) | simp | omega)
    have f107 := sm104.at f12 (by first | decide | (simp; omega) | simp | omega)
    have f108 := sm104.at f13 (by first | decide | (simp; omega) | simp | omega)
    have f109 := sm104.at f14 (by first | decide | (simp; omega) | simp | omega)
    have f110 := sm104.at fz1 (by first | decide | (simp; omega) | simp | omega)
    have f111 := sm104.at fz2 (by first | decide | (simp; omega) | simp | omega)
    have f112 := sm104.at fz3 (by first | decide | (simp; omega) | simp | omega)
    have sm113 := Gr.sm sm0 sm104 (fun x hx => Or.inl (by revert x; decide))
    refine x_if_eq (tgt := 21) dX1_readDrop_10 (by decide) (fun c_10 => ?_) (fun c_10 => absurd (by decide) c_10)
    refine x_iconst (v := 0) dX1_readDrop_21 (by decide) ?_
    exact x_zret dX1_readDrop_22 rfl rfl ⟨Gr.wide (m := a) sm113 (fun x _ hx => hx) (by omega) (by decide) (by decide), by rw [show drpF tn tv nl c.2.2.2 i = some (4, i) by unfold drpF; rw [if_pos h8]]; exact ⟨rfl, ⟨_, _, _, g103⟩, _, _, _, f107, f108, f109⟩⟩
  · refine x_callV (rf' := 1) (rl' := 22) [.int (nI (c.2.2.2)), .int 20] [] dX1_readDrop_7 vX1_100 Y_X1_readFirstWord f6 (by decide) rfl rfl (Nat.le_of_ble_eq_true rfl) (Nat.le_of_ble_eq_true rfl) (by decide) (by decide) (c_firstS (i := i) (show nI (c.2.2.2) < nI 20 from (nI_ltI (by omega) (by decide)).mpr (by omega)) f6) (fun r h114 e115 => ?_)
    obtain ⟨sm117, e0, g116⟩ := e115
    cases e0
    have sm117 : Sm [6] h h114 := sm117
    have f118 := sm117.at fa (by first | decide | (simp; omega) | simp | omega)
    have f119 := sm117.at fz4 (by first | decide | (simp; omega) | simp | omega)
    have f120 := sm117.at f12 (by first | decide | (simp; omega) | simp | omega)
    have f121 := sm117.at f13 (by first | decide | (simp; omega) | simp | omega)
    have f122 := sm117.at f14 (by first | decide | (simp; omega) | simp | omega)
    have f123 := sm117.at fz1 (by first | decide | (simp; omega) | simp | omega)
    have f124 := sm117.at fz2 (by first | decide | (simp; omega) | simp | omega)
    have f125 := sm117.at fz3 (by first | decide | (simp; omega) | simp | omega)
    have sm126 := Gr.sm sm0 sm117 (fun x hx => Or.inl (by revert x; decide))
    refine x_if_eq (tgt := 21) dX1_readDrop_10 (by decide) (fun c_10 => absurd c_10 (by decide)) (fun c_10 => ?_)
    refine x_aload_n dX1_readDrop_13 0 rfl ?_
    refine x_iconst (v := 1) dX1_readDrop_14 (by decide) ?_
    refine x_callV (rf' := 2) (rl' := 43) [.int 1] [] dX1_readDrop_15 vX1_185 Y_X1_readToldName g116 (by decide) rfl rfl (Nat.le_of_ble_eq_true rfl) (Nat.le_of_ble_eq_true rfl) (by decide) (by decide) (c_readToldName (k := 1) (i := (i + 1)) (hTk.gr sm126 hm (by decide)) (by omega) ⟨hl24, _, _, _, f120, f121, f122, hy⟩ (by omega) g116) (fun r h127 e128 => ?_)
    obtain ⟨sm131, e128⟩ := e128
    have sm131 : Sm [6] h114 h127 := sm131
    have f133 := sm131.at f118 (by first | decide | (simp; omega) | simp | omega)
    have f134 := sm131.at f119 (by first | decide | (simp; omega) | simp | omega)
    have f135 := sm131.at f120 (by first | decide | (simp; omega) | simp | omega)
    have f136 := sm131.at f121 (by first | decide | (simp; omega) | simp | omega)
    have f137 := sm131.at f122 (by first | decide | (simp; omega) | simp | omega)
    have f138 := sm131.at f123 (by first | decide | (simp; omega) | simp | omega)
    have f139 := sm131.at f124 (by first | decide | (simp; omega) | simp | omega)
    have f140 := sm131.at f125 (by first | decide | (simp; omega) | simp | omega)
    have sm141 := Gr.sm sm126 sm131 (fun x hx => Or.inl (by revert x; decide))
    cases q129 : tldF tn tv nl 1 (i + 1) with
    | none =>
      rw [q129] at e128
      obtain ⟨e0, g132⟩ := e128
      cases e0
      have g132 : h127[6]? = some (cO 1 [.ref 7, .ref 12, .ref 13, .ref 14, .int (nI (nl.length)), .int (nI (i + 2)), .int (nI (tldV tn tv nl (i + 1))), .int ft, .int 0]) := g132
      obtain ⟨hin142, kkq129⟩ := tld_lt hTk (by omega) q129
      refine x_if_ne (tgt := 23) dX1_readDrop_18 (by decide) (fun c_18 => ?_) (fun c_18 => absurd c_18 (by decide))
      refine x_new dX1_readDrop_23 nX1_206 (fun h143 q144 ea145 a146 e147 l148 s149 => ?_)
      have lm150 := sm141.2.1
      have f151 := (e147 6 (by have := lt_at g132; omega)).trans g132
      have f152 := (e147 a (by have := lt_at f133; omega)).trans f133
      have f153 := (e147 (a + 4) (by have := lt_at f134; omega)).trans f134
      have f154 := (e147 12 (by have := lt_at f135; omega)).trans f135
      have f155 := (e147 13 (by have := lt_at f136; omega)).trans f136
      have f156 := (e147 14 (by have := lt_at f137; omega)).trans f137
      have f157 := (e147 (a + 1) (by have := lt_at f138; omega)).trans f138
      have f158 := (e147 (a + 2) (by have := lt_at f139; omega)).trans f139
      have f159 := (e147 (a + 3) (by have := lt_at f140; omega)).trans f140
      have sm160 := Gr.new sm141 ea145 e147 l148 s149
      refine x_dup dX1_readDrop_26 rfl ?_
      refine x_callIN (rf' := 1) (rl' := 20) [] [.ref q144] dX1_readDrop_27 vX1_208 Y_X5_init rfl rfl (Nat.le_of_ble_eq_true rfl) (Nat.le_of_ble_eq_true rfl) (by decide) (by decide) (c_X5_init (by omega) (by omega) a146) (fun r h161 e162 => ?_)
      obtain ⟨e0, l163, g165, gr164⟩ := e162
      cases e0
      have l163 : h161.length = q144 + 1 := l163
      have gr164 : Gr q144 [] 0 0 h143 h161 := gr164
      have f166 := gr164.at f151 (by have := lt_at f151; omega) (by simp)
      have f167 := gr164.at f152 (by have := lt_at f152; omega) (by simp)
      have f168 := gr164.at f153 (by have := lt_at f153; omega) (by simp)
      have f169 := gr164.at f154 (by have := lt_at f154; omega) (by simp)
      have f170 := gr164.at f155 (by have := lt_at f155; omega) (by simp)
      have f171 := gr164.at f156 (by have := lt_at f156; omega) (by simp)
      have f172 := gr164.at f157 (by have := lt_at f157; omega) (by simp)
      have f173 := gr164.at f158 (by have := lt_at f158; omega) (by simp)
      have f174 := gr164.at f159 (by have := lt_at f159; omega) (by simp)
      have sm175 := Gr.tr sm160 gr164 (by simp) (by omega)
      refine x_astore_n (lv2 := [(2, .ref q144), (0, .ref 6), (1, .ref a)]) dX1_readDrop_30 (by decide) rfl ?_
      refine x_aload_n dX1_readDrop_31 0 rfl ?_
      refine x_aload_n dX1_readDrop_32 1 rfl ?_
      refine x_get (v := .int (nI (tldV tn tv nl (i + 1)))) dX1_readDrop_33 fX1_38 f166 (by decide) rfl ?_
      refine x_put (fs2 := [.int (nI (tldV tn tv nl (i + 1))), .int 0, .int 0, .int 1]) dX1_readDrop_36 fX1_209 (Or.inl rfl) g165 (by omega) rfl rfl (Nat.le_of_ble_eq_true rfl) rfl (fun h176 a177 e178 l179 s180 => ?_)
      have f181 := (e178 6 (by omega)).trans f166
      have f182 := (e178 a (by omega)).trans f167
      have f183 := (e178 (a + 4) (by omega)).trans f168
      have f184 := (e178 12 (by omega)).trans f169
      have f185 := (e178 13 (by omega)).trans f170
      have f186 := (e178 14 (by omega)).trans f171
      have f187 := (e178 (a + 1) (by omega)).trans f172
      have f188 := (e178 (a + 2) (by omega)).trans f173
      have f189 := (e178 (a + 3) (by omega)).trans f174
      have sm190 := Gr.put sm175 e178 l179 s180 (Or.inr (by omega))
      refine x_aload_n dX1_readDrop_39 1 rfl ?_
      refine x_bipush (v := 12) dX1_readDrop_40 (by decide) ?_
      refine x_iconst (v := 0) dX1_readDrop_42 (by decide) ?_
      refine x_iconst (v := 5) dX1_readDrop_43 (by decide) ?_
      refine x_callV (rf' := 2) (rl' := 44) [.int 12, .int 0, .int 5] [] dX1_readDrop_44 vX1_113 Y_X1_readNumberOf f181 (by decide) rfl rfl (Nat.le_of_ble_eq_true rfl) (Nat.le_of_ble_eq_true rfl) (by decide) (by decide) (c_readNumberOf (k := 12) (a := 0) (b := 5) (i := (i + 2)) (hTk.gr sm190 hm (by decide)) (by omega) (by omega) f181) (fun r h191 e192 => ?_)
      obtain ⟨sm195, e192⟩ := e192
      have sm195 : Sm [6] h176 h191 := sm195
      have f197 := sm195.at f182 (by first | decide | (simp; omega) | simp | omega)
      have f198 := sm195.at f183 (by first | decide | (simp; omega) | simp | omega)
      have f199 := sm195.at f184 (by first | decide | (simp; omega) | simp | omega)
      have f200 := sm195.at f185 (by first | decide | (simp; omega) | simp | omega)
      have f201 := sm195.at f186 (by first | decide | (simp; omega) | simp | omega)
      have f202 := sm195.at f187 (by first | decide | (simp; omega) | simp | omega)
      have f203 := sm195.at f188 (by first | decide | (simp; omega) | simp | omega)
      have f204 := sm195.at f189 (by first | decide | (simp; omega) | simp | omega)
      have f205 := sm195.at a177 (by first | decide | (simp; omega) | simp | omega)
      have sm206 := Gr.sm sm190 sm195 (fun x hx => Or.inl (by revert x; decide))
      cases q193 : numOfF tn tv 12 0 5 (i + 2) with
      | none =>
        rw [q193] at e192
        obtain ⟨e0, g196⟩ := e192
        cases e0
        have g196 : h191[6]? = some (cO 1 [.ref 7, .ref 12, .ref 13, .ref 14, .int (nI (nl.length)), .int (nI (i + 4)), .int (nI (nv tn tv (i + 3))), .int ft, .int 0]) := g196
        obtain ⟨hin207, kkq193⟩ := numOf_lt hTk (by omega) (by omega) q193
        refine x_if_ne (tgt := 52) dX1_readDrop_47 (by decide) (fun c_47 => ?_) (fun c_47 => absurd c_47 (by decide))
        refine x_aload_n dX1_readDrop_52 0 rfl ?_
        refine x_aload_n dX1_readDrop_53 1 rfl ?_
        refine x_get (v := .int (nI (nv tn tv (i + 3)))) dX1_readDrop_54 fX1_38 g196 (by decide) rfl ?_
        refine x_put (fs2 := [.int (nI (tldV tn tv nl (i + 1))), .int (nI (nv tn tv (i + 3))), .int 0, .int 1]) dX1_readDrop_57 fX1_212 (Or.inl rfl) f205 (by omega) rfl rfl (Nat.le_of_ble_eq_true rfl) rfl (fun h208 a209 e210 l211 s212 => ?_)
        have f213 := (e210 6 (by omega)).trans g196
        have f214 := (e210 a (by omega)).trans f197
        have f215 := (e210 (a + 4) (by omega)).trans f198
        have f216 := (e210 12 (by omega)).trans f199
        have f217 := (e210 13 (by omega)).trans f200
        have f218 := (e210 14 (by omega)).trans f201
        have f219 := (e210 (a + 1) (by omega)).trans f202
        have f220 := (e210 (a + 2) (by omega)).trans f203
        have f221 := (e210 (a + 3) (by omega)).trans f204
        have sm222 := Gr.put sm206 e210 l211 s212 (Or.inr (by omega))
        refine x_aload_n dX1_readDrop_60 1 rfl ?_
        refine x_bipush (v := 15) dX1_readDrop_61 (by decide) ?_
        refine x_iconst (v := 0) dX1_readDrop_63 (by decide) ?_
        refine x_sipush (v := 30000) dX1_readDrop_64 (by decide) ?_
        refine x_callV (rf' := 2) (rl' := 44) [.int 15, .int 0, .int 30000] [] dX1_readDrop_67 vX1_113 Y_X1_readNumberOf f213 (by decide) rfl rfl (Nat.le_of_ble_eq_true rfl) (Nat.le_of_ble_eq_true rfl) (by decide) (by decide) (c_readNumberOf (k := 15) (a := 0) (b := 30000) (i := (i + 4)) (hTk.gr sm222 hm (by decide)) (by omega) (by omega) f213) (fun r h223 e224 => ?_)
        obtain ⟨sm227, e224⟩ := e224
        have sm227 : Sm [6] h208 h223 := sm227
        have f229 := sm227.at f214 (by first | decide | (simp; omega) | simp | omega)
        have f230 := sm227.at f215 (by first | decide | (simp; omega) | simp | omega)
        have f231 := sm227.at f216 (by first | decide | (simp; omega) | simp | omega)
        have f232 := sm227.at f217 (by first | decide | (simp; omega) | simp | omega)
        have f233 := sm227.at f218 (by first | decide | (simp; omega) | simp | omega)
        have f234 := sm227.at f219 (by first | decide | (simp; omega) | simp | omega)
        have f235 := sm227.at f220 (by first | decide | (simp; omega) | simp | omega)
        have f236 := sm227.at f221 (by first | decide | (simp; omega) | simp | omega)
        have f237 := sm227.at a209 (by first | decide | (simp; omega) | simp | omega)
        have sm238 := Gr.sm sm222 sm227 (fun x hx => Or.inl (by revert x; decide))
        cases q225 : numOfF tn tv 15 0 30000 (i + 4) with
        | none =>
          rw [q225] at e224
          obtain ⟨e0, g228⟩ := e224
          cases e0
          have g228 : h223[6]? = some (cO 1 [.ref 7, .ref 12, .ref 13, .ref 14, .int (nI (nl.length)), .int (nI (i + 6)), .int (nI (nv tn tv (i + 5))), .int ft, .int 0]) := g228
          obtain ⟨hin239, kkq225⟩ := numOf_lt hTk (by omega) (by omega) q225
          refine x_if_ne (tgt := 75) dX1_readDrop_70 (by decide) (fun c_70 => ?_) (fun c_70 => absurd c_70 (by decide))
          refine x_aload_n dX1_readDrop_75 0 rfl ?_
          refine x_aload_n dX1_readDrop_76 1 rfl ?_
          refine x_get (v := .int (nI (nv tn tv (i + 5)))) dX1_readDrop_77 fX1_38 g228 (by decide) rfl ?_
          refine x_put (fs2 := [.int (nI (tldV tn tv nl (i + 1))), .int (nI (nv tn tv (i + 3))), .int (nI (nv tn tv (i + 5))), .int 1]) dX1_readDrop_80 fX1_215 (Or.inl rfl) f237 (by omega) rfl rfl (Nat.le_of_ble_eq_true rfl) rfl (fun h240 a241 e242 l243 s244 => ?_)
          have f245 := (e242 6 (by omega)).trans g228
          have f246 := (e242 a (by omega)).trans f229
          have f247 := (e242 (a + 4) (by omega)).trans f230
          have f248 := (e242 12 (by omega)).trans f231
          have f249 := (e242 13 (by omega)).trans f232
          have f250 := (e242 14 (by omega)).trans f233
          have f251 := (e242 (a + 1) (by omega)).trans f234
          have f252 := (e242 (a + 2) (by omega)).trans f235
          have f253 := (e242 (a + 3) (by omega)).trans f236
          have sm254 := Gr.put sm238 e242 l243 s244 (Or.inr (by omega))
          refine x_aload_n dX1_readDrop_83 1 rfl ?_
          refine x_bipush (v := 16) dX1_readDrop_84 (by decide) ?_
          refine x_callV (rf' := 1) (rl' := 21) [.int 16] [] dX1_readDrop_86 vX1_52 Y_X1_isNow f245 (by decide) rfl rfl (Nat.le_of_ble_eq_true rfl) (Nat.le_of_ble_eq_true rfl) (by decide) (by decide) (c_isNow (k := 16) (i := (i + 6)) (hTk.gr sm254 hm (by decide)) (by omega) (by omega) f245) (fun _ _ e255 => ?_)
          cases e255
          by_cases k256 : kd tn tv (i + 6) = 16
          · rw [if_pos k256]
            refine x_if_eq (tgt := 114) dX1_readDrop_89 (by decide) (fun c_89 => absurd c_89 (by decide)) (fun c_89 => ?_)
            refine x_aload_n dX1_readDrop_92 1 rfl ?_
            refine x_bipush (v := 16) dX1_readDrop_93 (by decide) ?_
            refine x_iconst (v := 1) dX1_readDrop_95 (by decide) ?_
            refine x_bipush (v := 20) dX1_readDrop_96 (by decide) ?_
            refine x_callV (rf' := 2) (rl' := 44) [.int 16, .int 1, .int 20] [] dX1_readDrop_98 vX1_113 Y_X1_readNumberOf f245 (by decide) rfl rfl (Nat.le_of_ble_eq_true rfl) (Nat.le_of_ble_eq_true rfl) (by decide) (by decide) (c_readNumberOf (k := 16) (a := 1) (b := 20) (i := (i + 6)) (hTk.gr sm254 hm (by decide)) (by omega) (by omega) f245) (fun r h257 e258 => ?_)
            obtain ⟨sm261, e258⟩ := e258
            have sm261 : Sm [6] h240 h257 := sm261
            have f263 := sm261.at f246 (by first | decide | (simp; omega) | simp | omega)
            have f264 := sm261.at f247 (by first | decide | (simp; omega) | simp | omega)
            have f265 := sm261.at f248 (by first | decide | (simp; omega) | simp | omega)
            have f266 := sm261.at f249 (by first | decide | (simp; omega) | simp | omega)
            have f267 := sm261.at f250 (by first | decide | (simp; omega) | simp | omega)
            have f268 := sm261.at f251 (by first | decide | (simp; omega) | simp | omega)
            have f269 := sm261.at f252 (by first | decide | (simp; omega) | simp | omega)
            have f270 := sm261.at f253 (by first | decide | (simp; omega) | simp | omega)
            have f271 := sm261.at a241 (by first | decide | (simp; omega) | simp | omega)
            have sm272 := Gr.sm sm254 sm261 (fun x hx => Or.inl (by revert x; decide))
            cases q259 : numOfF tn tv 16 1 20 (i + 6) with
            | none =>
              rw [q259] at e258
              obtain ⟨e0, g262⟩ := e258
              cases e0
              have g262 : h257[6]? = some (cO 1 [.ref 7, .ref 12, .ref 13, .ref 14, .int (nI (nl.length)), .int (nI (i + 8)), .int (nI (nv tn tv (i + 7))), .int ft, .int 0]) := g262
              obtain ⟨hin273, kkq259⟩ := numOf_lt hTk (by omega) (by omega) q259
              refine x_if_ne (tgt := 106) dX1_readDrop_101 (by decide) (fun c_101 => ?_) (fun c_101 => absurd c_101 (by decide))
              refine x_aload_n dX1_readDrop_106 0 rfl ?_
              refine x_aload_n dX1_readDrop_107 1 rfl ?_
              refine x_get (v := .int (nI (nv tn tv (i + 7)))) dX1_readDrop_108 fX1_38 g262 (by decide) rfl ?_
              refine x_put (fs2 := [.int (nI (tldV tn tv nl (i + 1))), .int (nI (nv tn tv (i + 3))), .int (nI (nv tn tv (i + 5))), .int (nI (nv tn tv (i + 7)))]) dX1_readDrop_111 fX1_218 (Or.inl rfl) f271 (by omega) rfl rfl (Nat.le_of_ble_eq_true rfl) rfl (fun h274 a275 e276 l277 s278 => ?_)
              have f279 := (e276 6 (by omega)).trans g262
              have f280 := (e276 a (by omega)).trans f263
              have f281 := (e276 (a + 4) (by omega)).trans f264
              have f282 := (e276 12 (by omega)).trans f265
              have f283 := (e276 13 (by omega)).trans f266
              have f284 := (e276 14 (by omega)).trans f267
              have f285 := (e276 (a + 1) (by omega)).trans f268
              have f286 := (e276 (a + 2) (by omega)).trans f269
              have f287 := (e276 (a + 3) (by omega)).trans f270
              have sm288 := Gr.put sm272 e276 l277 s278 (Or.inr (by omega))
              refine x_aload_n dX1_readDrop_114 2 rfl ?_
              refine x_aload_n dX1_readDrop_115 0 rfl ?_
              refine x_callV (rf' := 0) (rl' := 0) [.ref q144] [] dX1_readDrop_116 vX1_221 Y_X0_addDrop f280 (by omega) rfl rfl (Nat.le_of_ble_eq_true rfl) (Nat.le_of_ble_eq_true rfl) (by decide) (by decide) (c_addDrop (by omega) (by omega) (by omega) f280 f281 a275) (fun r h289 e290 => ?_)
              obtain ⟨e0, sm9, g0, g1⟩ := e290
              cases e0
              have sm9 : Sm [a, a + 4] h274 h289 := sm9
              have P1 : BkP h274 R c a Q Z := hP.kept ha51 (KpT.gr sm288 nm6)
              have ag : ∀ j, relB c j → drpR tn tv nl c.2.2.2 i R j = R j := fun j hj => by unfold relB at hj; unfold drpR; rw [if_neg (by omega), if_neg (by omega), if_neg (by omega), if_neg (by omega), if_neg (by omega)]
              have P2 := (P1.rec ag).drop (q := q144) (drp_new (by omega) (by rw [if_pos k256]; exact a275))
              have P3 := P2.kept ha51 (KpT.sm2 sm9 f280 f281 rfl rfl)
              have G9 : Gr a [6, 12, 13, 14] 5 27 h h289 := Gr.wide (Gr.sm (Gr.wide (m := a) sm288 (fun x _ hx => hx) (by omega) (Nat.le_refl _) (Nat.le_refl _)) sm9 (fun x hx => Or.inr (by simp at hx; omega))) (fun x _ hx => hx) (Nat.le_refl _) (by decide) (by decide)
              have f291 := sm9.at f279 (by first | decide | (simp; omega) | simp | omega)
              have f292 := sm9.at f282 (by first | decide | (simp; omega) | simp | omega)
              have f293 := sm9.at f283 (by first | decide | (simp; omega) | simp | omega)
              have f294 := sm9.at f284 (by first | decide | (simp; omega) | simp | omega)
              have f295 := sm9.at f285 (by first | decide | (simp; omega) | simp | omega)
              have f296 := sm9.at f286 (by first | decide | (simp; omega) | simp | omega)
              have f297 := sm9.at f287 (by first | decide | (simp; omega) | simp | omega)
              have f298 := sm9.at a275 (by first | decide | (simp; omega) | simp | omega)
              refine x_iconst (v := 1) dX1_readDrop_119 (by decide) ?_
              exact x_zret dX1_readDrop_120 rfl rfl ⟨G9, by rw [show drpF tn tv nl c.2.2.2 i = none by unfold drpF; rw [if_neg h8, q129, q193, q225, if_pos k256, q259]; rfl]; unfold drpI; rw [if_pos k256]; exact ⟨rfl, ⟨⟨_, _, f291⟩, ⟨hl24, _, _, _, f292, f293, f294, hy⟩⟩, ha51, _, (Z.1, Z.2.1, Z.2.2.1, va_up Z.2.2.2 c.2.2.2 (some q144)), g0, f295, f296, f297, g1, P3⟩⟩
            | some fl260 =>
              rw [q259] at e258
              obtain ⟨e0, v299, v300, g262⟩ := e258
              cases e0
              refine x_if_ne (tgt := 106) dX1_readDrop_101 (by decide) (fun c_101 => absurd (by decide) c_101) (fun c_101 => ?_)
              refine x_iconst (v := 0) dX1_readDrop_104 (by decide) ?_
              exact x_zret dX1_readDrop_105 rfl rfl ⟨Gr.wide (m := a) sm272 (fun x _ hx => hx) (by omega) (by decide) (by decide), by rw [show drpF tn tv nl c.2.2.2 i = some fl260 by unfold drpF; rw [if_neg h8, q129, q193, q225, if_pos k256, q259]; rfl]; exact ⟨rfl, ⟨_, _, _, g262⟩, _, _, _, f265, f266, f267⟩⟩
          · rw [if_neg k256]
            refine x_if_eq (tgt := 114) dX1_readDrop_89 (by decide) (fun c_89 => ?_) (fun c_89 => absurd (by decide) c_89)
            refine x_aload_n dX1_readDrop_114 2 rfl ?_
            refine x_aload_n dX1_readDrop_115 0 rfl ?_
            refine x_callV (rf' := 0) (rl' := 0) [.ref q144] [] dX1_readDrop_116 vX1_221 Y_X0_addDrop f246 (by omega) rfl rfl (Nat.le_of_ble_eq_true rfl) (Nat.le_of_ble_eq_true rfl) (by decide) (by decide) (c_addDrop (by omega) (by omega) (by omega) f246 f247 a241) (fun r h302 e303 => ?_)
            obtain ⟨e0, sm9, g0, g1⟩ := e303
            cases e0
            have sm9 : Sm [a, a + 4] h240 h302 := sm9
            have P1 : BkP h240 R c a Q Z := hP.kept ha51 (KpT.gr sm254 nm6)
            have ag : ∀ j, relB c j → drpR tn tv nl c.2.2.2 i R j = R j := fun j hj => by unfold relB at hj; unfold drpR; rw [if_neg (by omega), if_neg (by omega), if_neg (by omega), if_neg (by omega), if_neg (by omega)]
            have P2 := (P1.rec ag).drop (q := q144) (drp_new (by omega) (by rw [if_neg k256]; exact a241))
            have P3 := P2.kept ha51 (KpT.sm2 sm9 f246 f247 rfl rfl)
            have G9 : Gr a [6, 12, 13, 14] 5 27 h h302 := Gr.wide (Gr.sm (Gr.wide (m := a) sm254 (fun x _ hx => hx) (by omega) (Nat.le_refl _) (Nat.le_refl _)) sm9 (fun x hx => Or.inr (by simp at hx; omega))) (fun x _ hx => hx) (Nat.le_refl _) (by decide) (by decide)
            have f304 := sm9.at f245 (by first | decide | (simp; omega) | simp | omega)
            have f305 := sm9.at f248 (by first | decide | (simp; omega) | simp | omega)
            have f306 := sm9.at f249 (by first | decide | (simp; omega) | simp | omega)
            have f307 := sm9.at f250 (by first | decide | (simp; omega) | simp | omega)
            have f308 := sm9.at f251 (by first | decide | (simp; omega) | simp | omega)
            have f309 := sm9.at f252 (by first | decide | (simp; omega) | simp | omega)
            have f310 := sm9.at f253 (by first | decide | (simp; omega) | simp | omega)
            have f311 := sm9.at a241 (by first | decide | (simp; omega) | simp | omega)
            refine x_iconst (v := 1) dX1_readDrop_119 (by decide) ?_
            exact x_zret dX1_readDrop_120 rfl rfl ⟨G9, by rw [show drpF tn tv nl c.2.2.2 i = none by unfold drpF; rw [if_neg h8, q129, q193, q225, if_neg k256]; rfl]; unfold drpI; rw [if_neg k256]; exact ⟨rfl, ⟨⟨_, _, f304⟩, ⟨hl24, _, _, _, f305, f306, f307, hy⟩⟩, ha51, _, (Z.1, Z.2.1, Z.2.2.1, va_up Z.2.2.2 c.2.2.2 (some q144)), g0, f308, f309, f310, g1, P3⟩⟩
        | some fl226 =>
          rw [q225] at e224
          obtain ⟨e0, v312, v313, g228⟩ := e224
          cases e0
          refine x_if_ne (tgt := 75) dX1_readDrop_70 (by decide) (fun c_70 => absurd (by decide) c_70) (fun c_70 => ?_)
          refine x_iconst (v := 0) dX1_readDrop_73 (by decide) ?_
          exact x_zret dX1_readDrop_74 rfl rfl ⟨Gr.wide (m := a) sm238 (fun x _ hx => hx) (by omega) (by decide) (by decide), by rw [show drpF tn tv nl c.2.2.2 i = some fl226 by unfold drpF; rw [if_neg h8, q129, q193, q225]; rfl]; exact ⟨rfl, ⟨_, _, _, g228⟩, _, _, _, f231, f232, f233⟩⟩
      | some fl194 =>
        rw [q193] at e192
        obtain ⟨e0, v315, v316, g196⟩ := e192
        cases e0
        refine x_if_ne (tgt := 52) dX1_readDrop_47 (by decide) (fun c_47 => absurd (by decide) c_47) (fun c_47 => ?_)
        refine x_iconst (v := 0) dX1_readDrop_50 (by decide) ?_
        exact x_zret dX1_readDrop_51 rfl rfl ⟨Gr.wide (m := a) sm206 (fun x _ hx => hx) (by omega) (by decide) (by decide), by rw [show drpF tn tv nl c.2.2.2 i = some fl194 by unfold drpF; rw [if_neg h8, q129, q193]; rfl]; exact ⟨rfl, ⟨_, _, _, g196⟩, _, _, _, f199, f200, f201⟩⟩
    | some fl130 =>
      rw [q129] at e128
      obtain ⟨e0, v318, g132⟩ := e128
      cases e0
      refine x_if_ne (tgt := 23) dX1_readDrop_18 (by decide) (fun c_18 => absurd (by decide) c_18) (fun c_18 => ?_)
      refine x_iconst (v := 0) dX1_readDrop_21 (by decide) ?_
      exact x_zret dX1_readDrop_22 rfl rfl ⟨Gr.wide (m := a) sm141 (fun x _ hx => hx) (by omega) (by decide) (by decide), by rw [show drpF tn tv nl c.2.2.2 i = some fl130 by unfold drpF; rw [if_neg h8, q129]; rfl]; exact ⟨rfl, ⟨_, _, _, g132⟩, _, _, _, f135, f136, f137⟩⟩

/-! ===== what a LINE tells, and what is wrong with it ===== -/
abbrev CN : Type := Nat × Nat × Nat × Nat
def thgF (tn : Nat) (tv : Nat → Nat) (nl : NL') (nt i : Nat) : Option (Nat × Nat) := if 8 ≤ nt then some (4, i) else (newF tn tv nl (i + 1)).or ((numOfF tn tv 7 1 60000 (i + 2)).or ((szF tn tv 8 (i + 4)).or (numOfF tn tv 9 1 60000 (i + 8))))
def thgR (tn : Nat) (tv : Nat → Nat) (nt i : Nat) (R : Nat → Int32) (j : Nat) : Int32 := if j = 164 + 24 * nt then nI (nv tn tv (i + 3)) else if j = 164 + 24 * nt + 1 then nI (nv tn tv (i + 5)) else if j = 164 + 24 * nt + 2 then nI (nv tn tv (i + 6)) else if j = 164 + 24 * nt + 3 then nI (nv tn tv (i + 7)) else if j = 164 + 24 * nt + 4 then nI (nv tn tv (i + 9)) else if 164 + 24 * nt + 5 ≤ j ∧ j < 164 + 24 * nt + 24 then 0 else if j = 1 then nI (nt + 1) else R j
def boxF (tn : Nat) (tv : Nat → Nat) (nl : NL') (nb i : Nat) : Option (Nat × Nat) := if 8 ≤ nb then some (4, i) else (newF tn tv nl (i + 1)).or ((szF tn tv 10 (i + 2)).or ((numOfF tn tv 6 0 10000 (i + 6)).or (numOfF tn tv 11 1 60000 (i + 8))))
def boxR (tn : Nat) (tv : Nat → Nat) (nb i : Nat) (R : Nat → Int32) (j : Nat) : Int32 := if j = 356 + 6 * nb then nI (nv tn tv (i + 3)) else if j = 356 + 6 * nb + 1 then nI (nv tn tv (i + 4)) else if j = 356 + 6 * nb + 2 then nI (nv tn tv (i + 5)) else if j = 356 + 6 * nb + 3 then nI (nv tn tv (i + 7)) else if j = 356 + 6 * nb + 4 then nI (nv tn tv (i + 9)) else if j = 2 then nI (nb + 1) else R j
/-- where the PAD's own numbers stand -/
def padP (tn : Nat) (tv : Nat → Nat) (nl : NL') (i : Nat) : Nat := 164 + 24 * tldV tn tv nl (i + 1) + 5 + 3 * nv tn tv (i + 3)
def padF (tn : Nat) (tv : Nat → Nat) (nl : NL') (i : Nat) (R : Nat → Int32) : Option (Nat × Nat) := (tldF tn tv nl 1 (i + 1)).or ((numOfF tn tv 12 0 5 (i + 2)).or ((if 0 < R (padP tn tv nl i) then some (4, i + 3) else none).or ((tldF tn tv nl 0 (i + 4)).or ((numOfF tn tv 13 10 600 (i + 5)).or (numOfF tn tv 14 1 2000 (i + 7))))))
def padR (tn : Nat) (tv : Nat → Nat) (nl : NL') (i : Nat) (R : Nat → Int32) (j : Nat) : Int32 := if j = padP tn tv nl i then nI (tldV tn tv nl (i + 4) + 1) else if j = padP tn tv nl i + 1 then nI (nv tn tv (i + 6)) else if j = padP tn tv nl i + 2 then nI (nv tn tv (i + 8)) else R j
def drpF (tn : Nat) (tv : Nat → Nat) (nl : NL') (nd i : Nat) : Option (Nat × Nat) := if 20 ≤ nd then some (4, i) else (tldF tn tv nl 1 (i + 1)).or ((numOfF tn tv 12 0 5 (i + 2)).or ((numOfF tn tv 15 0 30000 (i + 4)).or (if kd tn tv (i + 6) = 16 then numOfF tn tv 16 1 20 (i + 6) else none)))
def drpR (tn : Nat) (tv : Nat → Nat) (nl : NL') (nd i : Nat) (R : Nat → Int32) (j : Nat) : Int32 := if j = 404 + 4 * nd then nI (tldV tn tv nl (i + 1)) else if j = 404 + 4 * nd + 1 then nI (nv tn tv (i + 3)) else if j = 404 + 4 * nd + 2 then nI (nv tn tv (i + 5)) else if j = 404 + 4 * nd + 3 then (if kd tn tv (i + 6) = 16 then nI (nv tn tv (i + 7)) else 1) else if j = 3 then nI (nd + 1) else R j
def drpI (tn : Nat) (tv : Nat → Nat) (i : Nat) : Nat := if kd tn tv (i + 6) = 16 then i + 8 else i + 6
/-- the POINT k of a FOAM whose first begins with the TOKEN j -/
def ptL (tn : Nat) (tv : Nat → Nat) (j k : Nat) : Int32 := if k = 0 then 0 else nI (nv tn tv (j + 3 * (k - 1))) + 1
def ptU (tn : Nat) (tv : Nat → Nat) (j k : Nat) : Int32 := if k = 0 then 0 else nI (nv tn tv (j + 3 * (k - 1) + 2))
def ptF (tn : Nat) (tv : Nat → Nat) (j k : Nat) : Option (Nat × Nat) := (numF tn tv (ptL tn tv j k) (if k = 0 then 0 else 95) (j + 3 * k)).or ((if 8 ≤ k then some (4, j + 3 * k) else none).or ((tokF tn tv 20 (j + 3 * k + 1)).or (numF tn tv (ptU tn tv j k) 60000 (j + 3 * k + 2))))
def ptsF (tn : Nat) (tv : Nat → Nat) (j : Nat) : Nat → Nat → Sum (Nat × Nat) Nat
  | 0, k => .inr k
  | m + 1, k => if 2 ≤ k ∧ ¬ kd tn tv (j + 3 * k) = 18 then .inr k else match ptF tn tv j k with
    | some f => .inl f
    | none => ptsF tn tv j m (k + 1)
def fomN (tn : Nat) (tv : Nat → Nat) (i : Nat) : Nat := match ptsF tn tv (i + 2) 9 0 with
  | .inl _ => 0
  | .inr np => np
def fomF (tn : Nat) (tv : Nat → Nat) (nl : NL') (nf i : Nat) : Option (Nat × Nat) := if 8 ≤ nf then some (4, i) else (newF tn tv nl (i + 1)).or (match ptsF tn tv (i + 2) 9 0 with
  | .inl f => some f
  | .inr np => (numOfF tn tv 5 0 100 (i + 2 + 3 * np)).or (numOfF tn tv 6 0 100 (i + 4 + 3 * np)))
def fomR (tn : Nat) (tv : Nat → Nat) (nf i : Nat) (R : Nat → Int32) (j : Nat) : Int32 := if j = 4 + 20 * nf then nI (fomN tn tv i) else if j = 4 + 20 * nf + 1 then nI (nv tn tv (i + 3 + 3 * fomN tn tv i)) else if j = 4 + 20 * nf + 2 then nI (nv tn tv (i + 5 + 3 * fomN tn tv i)) else if 4 + 20 * nf + 3 ≤ j ∧ j < 4 + 20 * nf + 3 + fomN tn tv i then nI (nv tn tv (i + 2 + 3 * (j - (4 + 20 * nf + 3)))) else if 4 + 20 * nf + 11 ≤ j ∧ j < 4 + 20 * nf + 11 + fomN tn tv i then nI (nv tn tv (i + 4 + 3 * (j - (4 + 20 * nf + 11)))) else if j = 0 then nI (nf + 1) else R j
/-- the NAMES told are those of the counts -/
def NlOk (nl : NL') (c : CN) : Prop := nl.length = c.1 + c.2.1 + c.2.2.1 ∧ ∀ e, e < nl.length → ((nl.getD e (0, 0, 0)).1 = 0 → (nl.getD e (0, 0, 0)).2.1 < c.1) ∧ ((nl.getD e (0, 0, 0)).1 = 1 → (nl.getD e (0, 0, 0)).2.1 < c.2.1)
theorem num_rng {tn i a b : Nat} {tv : Nat → Nat} (h : numF tn tv (nI a) (nI b) i = none) (ha : a < 2 ^ 31) (hb : b < 2 ^ 31) : a ≤ nv tn tv i ∧ nv tn tv i ≤ b := by
  unfold numF at h
  by_cases q : kd tn tv i = 18
  · have h9 := kd_num q
    rw [if_pos q] at h
    by_cases z : nI (nv tn tv i) < nI a ∨ nI b < nI (nv tn tv i)
    · rw [if_pos z] at h; exact absurd h (by simp)
    · have z1 : ¬ nv tn tv i < a := fun y => z (Or.inl ((nI_ltI (by omega) ha).mpr y))
      have z2 : ¬ b < nv tn tv i := fun y => z (Or.inr ((nI_ltI hb (by omega)).mpr y))
      omega
  · rw [if_neg q] at h; exact absurd h (by simp)
theorem pts_spec {tn : Nat} {tv : Nat → Nat} {j : Nat} : ∀ (m k np : Nat), m + k = 9 → ptsF tn tv j m k = .inr np → k ≤ 8 → k ≤ np ∧ 2 ≤ np ∧ np ≤ 8 ∧ ∀ q, k ≤ q → q < np → ptF tn tv j q = none
  | 0, k, np, hm, h, hk => absurd hm (by omega)
  | m + 1, k, np, hm, h, hk => by
    unfold ptsF at h
    by_cases e : 2 ≤ k ∧ ¬ kd tn tv (j + 3 * k) = 18
    · rw [if_pos e] at h
      have : k = np := Sum.inr.inj h
      subst this
      exact ⟨by omega, e.1, hk, fun q h1 h2 => absurd h2 (by omega)⟩
    · rw [if_neg e] at h
      cases e2 : ptF tn tv j k with
      | some f => rw [e2] at h; exact absurd h (by simp)
      | none =>
        rw [e2] at h
        have h8 : k < 8 := by
          by_cases q : k < 8
          · exact q
          · exfalso
            unfold ptF at e2
            obtain ⟨-, e3⟩ := orN e2
            obtain ⟨e3, -⟩ := orN e3
            rw [if_pos (by omega)] at e3
            exact absurd e3 (by simp)
        obtain ⟨a, b, c, d⟩ := pts_spec m (k + 1) np (by omega) h (by omega)
        refine ⟨by omega, b, c, fun q h1 h2 => ?_⟩
        by_cases e4 : q = k
        · subst e4; exact e2
        · exact d q (by omega) h2
theorem WFf.cong {R R' : Nat → Int32} {f np : Nat} {P U : Nat → Nat} {ke pr : Nat} (w : WFf R f np P U ke pr) (e : ∀ j, f ≤ j → j < f + 20 → R' j = R j) : WFf R' f np P U ke pr := by
  obtain ⟨a1, a2, a3, a4, a5, a6, a7, a8, a9, b1, b2, b3, b4, b5⟩ := w
  exact ⟨(e f (by omega) (by omega)).trans a1, a2, a3, fun i hi => (e _ (by omega) (by omega)).trans (a4 i hi), a5, a6, a7, fun i hi => (e _ (by omega) (by omega)).trans (a8 i hi), a9, b1, (e _ (by omega) (by omega)).trans b2, b3, (e _ (by omega) (by omega)).trans b4, b5⟩
theorem WFt.cong {R R' : Nat → Int32} {t nf nf' : Nat} (w : WFt R t nf) (hn : nf ≤ nf') (e : ∀ j, t ≤ j → j < t + 24 → R' j = R j) : WFt R' t nf' := by
  obtain ⟨⟨w0, a1⟩, a2, ⟨m0, a3⟩, a4⟩ := w
  refine ⟨⟨w0, by rw [e _ (by omega) (by omega)]; exact a1⟩, fun i hi => ?_, ⟨m0, by rw [e _ (by omega) (by omega)]; exact a3⟩, fun sd hs => ?_⟩
  · rw [e _ (by omega) (by omega)]; exact a2 i hi
  · rw [e _ (by omega) (by omega), e _ (by omega) (by omega), e _ (by omega) (by omega)]
    rcases a4 sd hs with q | ⟨k, hk, q⟩
    · exact Or.inl q
    · exact Or.inr ⟨k, by omega, q⟩
theorem WFb.cong {R R' : Nat → Int32} {b : Nat} (w : WFb R b) (e : ∀ j, b ≤ j → j < b + 6 → R' j = R j) : WFb R' b := by
  obtain ⟨a1, a2, a3⟩ := w
  exact ⟨fun i hi => by rw [e _ (by omega) (by omega)]; exact a1 i hi, by rw [e _ (by omega) (by omega)]; exact a2, by rw [e _ (by omega) (by omega)]; exact a3⟩
theorem WFd.cong {R R' : Nat → Int32} {d nt nt' : Nat} (w : WFd R d nt) (hn : nt ≤ nt') (e : ∀ j, d ≤ j → j < d + 4 → R' j = R j) : WFd R' d nt' := by
  obtain ⟨⟨z, a1, a2⟩, a3, a4, a5⟩ := w
  exact ⟨⟨z, by rw [e _ (by omega) (by omega)]; exact a1, by omega⟩, by rw [e _ (by omega) (by omega)]; exact a3, by rw [e _ (by omega) (by omega)]; exact a4, by rw [e _ (by omega) (by omega)]; exact a5⟩
/-- what a told NAME stands for -/
theorem tld_in {tn i : Nat} {tv : Nat → Nat} {nl : NL'} {c : CN} (h : NlOk nl c) {k : Nat} (e : tldF tn tv nl k i = none) : (k = 0 → tldV tn tv nl i < c.1) ∧ (k = 1 → tldV tn tv nl i < c.2.1) := by
  unfold tldF at e
  by_cases q : kd tn tv i = 17
  · rw [if_pos q] at e
    by_cases z : ixN nl (wn tn tv i) < nl.length ∧ (nl.getD (ixN nl (wn tn tv i)) (0, 0, 0)).1 = k
    · obtain ⟨a, b⟩ := h.2 _ z.1
      exact ⟨fun y => a (z.2.trans y), fun y => b (z.2.trans y)⟩
    · rw [if_neg z] at e; exact absurd e (by simp)
  · rw [if_neg q] at e; exact absurd e (by simp)
theorem NlOk.add {nl : NL'} {c c' : CN} {k n w : Nat} (h : NlOk nl c) (hl : c'.1 + c'.2.1 + c'.2.2.1 = c.1 + c.2.1 + c.2.2.1 + 1) (h1 : c.1 ≤ c'.1) (h2 : c.2.1 ≤ c'.2.1) (e0 : k = 0 → n < c'.1) (e1 : k = 1 → n < c'.2.1) : NlOk (nl ++ [(k, n, w)]) c' := by
  refine ⟨by rw [List.length_append, h.1]; simp; omega, fun e he => ?_⟩
  rw [List.length_append] at he
  by_cases q : e = nl.length
  · rw [(getD_app (x := (k, n, w))).2 q]; exact ⟨e0, e1⟩
  · have q2 : e < nl.length := by simp at he; omega
    rw [(getD_app (x := (k, n, w))).1 q2]
    obtain ⟨a, b⟩ := h.2 e q2
    exact ⟨fun z => by have := a z; omega, fun z => by have := b z; omega⟩
theorem thg_wf {tn i : Nat} {tv : Nat → Nat} {nl : NL'} {c : CN} {R : Nat → Int32} (W : WFk R c) (e : thgF tn tv nl c.2.1 i = none) : WFk (thgR tn tv c.2.1 i R) (c.1, c.2.1 + 1, c.2.2.1, c.2.2.2) ∧ c.2.1 < 8 := by
  have W0 := W
  obtain ⟨w0, w1, w2, w3, w4, w5, w6, w7, w8, w9, wa, wb⟩ := W0
  unfold thgF at e
  by_cases q : 8 ≤ c.2.1
  · rw [if_pos q] at e; exact absurd e (by simp)
  rw [if_neg q] at e
  obtain ⟨-, e⟩ := orN e
  obtain ⟨e1, e⟩ := orN e
  obtain ⟨e2, e3⟩ := orN e
  obtain ⟨-, e1⟩ := orN e1
  obtain ⟨-, e2⟩ := orN e2
  obtain ⟨e4, e2⟩ := orN e2
  obtain ⟨e5, e6⟩ := orN e2
  obtain ⟨-, e3⟩ := orN e3
  have r1 := num_rng (a := 1) (b := 60000) e1 (by decide) (by decide)
  have r2 := num_rng (a := 1) (b := 9999) e4 (by decide) (by decide)
  have r3 := num_rng (a := 1) (b := 9999) e5 (by decide) (by decide)
  have r4 := num_rng (a := 1) (b := 9999) e6 (by decide) (by decide)
  have r5 := num_rng (a := 1) (b := 60000) e3 (by decide) (by decide)
  have ag : ∀ j, (j < 164 + 24 * c.2.1 ∨ 164 + 24 * c.2.1 + 24 ≤ j) → j ≠ 1 → thgR tn tv c.2.1 i R j = R j := fun j hj h1 => by
    unfold thgR
    rw [if_neg (by omega), if_neg (by omega), if_neg (by omega), if_neg (by omega), if_neg (by omega), if_neg (by omega), if_neg h1]
  have t0 : thgR tn tv c.2.1 i R (164 + 24 * c.2.1) = nI (nv tn tv (i + 3)) := if_pos rfl
  have t1 : thgR tn tv c.2.1 i R (164 + 24 * c.2.1 + 1) = nI (nv tn tv (i + 5)) := by unfold thgR; rw [if_neg (by omega), if_pos rfl]
  have t2 : thgR tn tv c.2.1 i R (164 + 24 * c.2.1 + 2) = nI (nv tn tv (i + 6)) := by unfold thgR; rw [if_neg (by omega), if_neg (by omega), if_pos rfl]
  have t3 : thgR tn tv c.2.1 i R (164 + 24 * c.2.1 + 3) = nI (nv tn tv (i + 7)) := by unfold thgR; rw [if_neg (by omega), if_neg (by omega), if_neg (by omega), if_pos rfl]
  have t4 : thgR tn tv c.2.1 i R (164 + 24 * c.2.1 + 4) = nI (nv tn tv (i + 9)) := by unfold thgR; rw [if_neg (by omega), if_neg (by omega), if_neg (by omega), if_neg (by omega), if_pos rfl]
  have t5 : ∀ j, 164 + 24 * c.2.1 + 5 ≤ j → j < 164 + 24 * c.2.1 + 24 → thgR tn tv c.2.1 i R j = 0 := fun j h1 h2 => by unfold thgR; rw [if_neg (by omega), if_neg (by omega), if_neg (by omega), if_neg (by omega), if_neg (by omega), if_pos ⟨h1, h2⟩]
  have t6 : thgR tn tv c.2.1 i R 1 = nI (c.2.1 + 1) := by unfold thgR; rw [if_neg (by omega), if_neg (by omega), if_neg (by omega), if_neg (by omega), if_neg (by omega), if_neg (by omega), if_pos rfl]
  refine ⟨⟨(ag 0 (by omega) (by omega)).trans w0, w1, t6, by show c.2.1 + 1 ≤ 8; omega, (ag 2 (by omega) (by omega)).trans w4, w5, (ag 3 (by omega) (by omega)).trans w6, w7, fun k hk => ?_, fun k hk => ?_, fun k hk => ?_, fun k hk => ?_⟩, by omega⟩
  · have hk : k < c.1 := hk
    obtain ⟨np, P, U, ke, pr, w⟩ := w8 k hk
    exact ⟨np, P, U, ke, pr, w.cong (fun j h1 h2 => ag j (by omega) (by omega))⟩
  · have hk : k < c.2.1 + 1 := hk
    by_cases q2 : k = c.2.1
    · subst q2
      refine ⟨⟨_, t0, r1⟩, fun i9 hi => ?_, ⟨_, t4, r5⟩, fun sd hs => Or.inl (t5 _ (by omega) (by omega))⟩
      match i9, hi with
      | 0, _ => exact ⟨_, t1, r2⟩
      | 1, _ => exact ⟨_, t2, r3⟩
      | 2, _ => exact ⟨_, t3, r4⟩
    · exact (w9 k (by omega)).cong (Nat.le_refl _) (fun j h1 h2 => ag j (by omega) (by omega))
  · have hk : k < c.2.2.1 := hk
    exact (wa k hk).cong (fun j h1 h2 => ag j (by omega) (by omega))
  · have hk : k < c.2.2.2 := hk
    exact (wb k hk).cong (Nat.le_succ _) (fun j h1 h2 => ag j (by omega) (by omega))
theorem box_wf {tn i : Nat} {tv : Nat → Nat} {nl : NL'} {c : CN} {R : Nat → Int32} (W : WFk R c) (e : boxF tn tv nl c.2.2.1 i = none) : WFk (boxR tn tv c.2.2.1 i R) (c.1, c.2.1, c.2.2.1 + 1, c.2.2.2) ∧ c.2.2.1 < 8 := by
  have W0 := W
  obtain ⟨w0, w1, w2, w3, w4, w5, w6, w7, w8, w9, wa, wb⟩ := W0
  unfold boxF at e
  by_cases q : 8 ≤ c.2.2.1
  · rw [if_pos q] at e; exact absurd e (by simp)
  rw [if_neg q] at e
  obtain ⟨-, e⟩ := orN e
  obtain ⟨e2, e⟩ := orN e
  obtain ⟨e1, e3⟩ := orN e
  obtain ⟨-, e1⟩ := orN e1
  obtain ⟨-, e2⟩ := orN e2
  obtain ⟨e4, e2⟩ := orN e2
  obtain ⟨e5, e6⟩ := orN e2
  obtain ⟨-, e3⟩ := orN e3
  have r1 := num_rng (a := 0) (b := 10000) e1 (by decide) (by decide)
  have r2 := num_rng (a := 1) (b := 9999) e4 (by decide) (by decide)
  have r3 := num_rng (a := 1) (b := 9999) e5 (by decide) (by decide)
  have r4 := num_rng (a := 1) (b := 9999) e6 (by decide) (by decide)
  have r5 := num_rng (a := 1) (b := 60000) e3 (by decide) (by decide)
  have ag : ∀ j, (j < 356 + 6 * c.2.2.1 ∨ 356 + 6 * c.2.2.1 + 5 ≤ j) → j ≠ 2 → boxR tn tv c.2.2.1 i R j = R j := fun j hj h1 => by
    unfold boxR
    rw [if_neg (by omega), if_neg (by omega), if_neg (by omega), if_neg (by omega), if_neg (by omega), if_neg h1]
  have t0 : boxR tn tv c.2.2.1 i R (356 + 6 * c.2.2.1) = nI (nv tn tv (i + 3)) := if_pos rfl
  have t1 : boxR tn tv c.2.2.1 i R (356 + 6 * c.2.2.1 + 1) = nI (nv tn tv (i + 4)) := by unfold boxR; rw [if_neg (by omega), if_pos rfl]
  have t2 : boxR tn tv c.2.2.1 i R (356 + 6 * c.2.2.1 + 2) = nI (nv tn tv (i + 5)) := by unfold boxR; rw [if_neg (by omega), if_neg (by omega), if_pos rfl]
  have t3 : boxR tn tv c.2.2.1 i R (356 + 6 * c.2.2.1 + 3) = nI (nv tn tv (i + 7)) := by unfold boxR; rw [if_neg (by omega), if_neg (by omega), if_neg (by omega), if_pos rfl]
  have t4 : boxR tn tv c.2.2.1 i R (356 + 6 * c.2.2.1 + 4) = nI (nv tn tv (i + 9)) := by unfold boxR; rw [if_neg (by omega), if_neg (by omega), if_neg (by omega), if_neg (by omega), if_pos rfl]
  have t6 : boxR tn tv c.2.2.1 i R 2 = nI (c.2.2.1 + 1) := by unfold boxR; rw [if_neg (by omega), if_neg (by omega), if_neg (by omega), if_neg (by omega), if_neg (by omega), if_pos rfl]
  refine ⟨⟨(ag 0 (by omega) (by omega)).trans w0, w1, (ag 1 (by omega) (by omega)).trans w2, w3, t6, by show c.2.2.1 + 1 ≤ 8; omega, (ag 3 (by omega) (by omega)).trans w6, w7, fun k hk => ?_, fun k hk => ?_, fun k hk => ?_, fun k hk => ?_⟩, by omega⟩
  · have hk : k < c.1 := hk
    obtain ⟨np, P, U, ke, pr, w⟩ := w8 k hk
    exact ⟨np, P, U, ke, pr, w.cong (fun j h1 h2 => ag j (by omega) (by omega))⟩
  · have hk : k < c.2.1 := hk
    exact (w9 k hk).cong (Nat.le_refl _) (fun j h1 h2 => ag j (by omega) (by omega))
  · have hk : k < c.2.2.1 + 1 := hk
    by_cases q2 : k = c.2.2.1
    · subst q2
      refine ⟨fun i9 hi => ?_, ⟨_, t3, r1.2⟩, ⟨_, t4, r5⟩⟩
      match i9, hi with
      | 0, _ => exact ⟨_, t0, r2⟩
      | 1, _ => exact ⟨_, t1, r3⟩
      | 2, _ => exact ⟨_, t2, r4⟩
    · exact (wa k (by omega)).cong (fun j h1 h2 => ag j (by omega) (by omega))
  · have hk : k < c.2.2.2 := hk
    exact (wb k hk).cong (Nat.le_refl _) (fun j h1 h2 => ag j (by omega) (by omega))
theorem drp_wf {tn i : Nat} {tv : Nat → Nat} {nl : NL'} {c : CN} {R : Nat → Int32} (W : WFk R c) (hn : NlOk nl c) (e : drpF tn tv nl c.2.2.2 i = none) : WFk (drpR tn tv nl c.2.2.2 i R) (c.1, c.2.1, c.2.2.1, c.2.2.2 + 1) ∧ c.2.2.2 < 20 := by
  have W0 := W
  obtain ⟨w0, w1, w2, w3, w4, w5, w6, w7, w8, w9, wa, wb⟩ := W0
  unfold drpF at e
  by_cases q : 20 ≤ c.2.2.2
  · rw [if_pos q] at e; exact absurd e (by simp)
  rw [if_neg q] at e
  obtain ⟨e0, e⟩ := orN e
  obtain ⟨e1, e⟩ := orN e
  obtain ⟨e2, e3⟩ := orN e
  obtain ⟨-, e1⟩ := orN e1
  obtain ⟨-, e2⟩ := orN e2
  have r0 := (tld_in hn e0).2 rfl
  have r1 : 0 ≤ nv tn tv (i + 3) ∧ nv tn tv (i + 3) ≤ 5 := num_rng (a := 0) (b := 5) e1 (by decide) (by decide)
  have r2 := num_rng (a := 0) (b := 30000) e2 (by decide) (by decide)
  have ag : ∀ j, (j < 404 + 4 * c.2.2.2 ∨ 404 + 4 * c.2.2.2 + 4 ≤ j) → j ≠ 3 → drpR tn tv nl c.2.2.2 i R j = R j := fun j hj h1 => by
    unfold drpR
    rw [if_neg (by omega), if_neg (by omega), if_neg (by omega), if_neg (by omega), if_neg h1]
  have t0 : drpR tn tv nl c.2.2.2 i R (404 + 4 * c.2.2.2) = nI (tldV tn tv nl (i + 1)) := if_pos rfl
  have t1 : drpR tn tv nl c.2.2.2 i R (404 + 4 * c.2.2.2 + 1) = nI (nv tn tv (i + 3)) := by unfold drpR; rw [if_neg (by omega), if_pos rfl]
  have t2 : drpR tn tv nl c.2.2.2 i R (404 + 4 * c.2.2.2 + 2) = nI (nv tn tv (i + 5)) := by unfold drpR; rw [if_neg (by omega), if_neg (by omega), if_pos rfl]
  have t3 : ∃ z, drpR tn tv nl c.2.2.2 i R (404 + 4 * c.2.2.2 + 3) = nI z ∧ 1 ≤ z ∧ z ≤ 20 := by
    unfold drpR
    rw [if_neg (by omega), if_neg (by omega), if_neg (by omega), if_pos rfl]
    by_cases z : kd tn tv (i + 6) = 16
    · rw [if_pos z] at e3 ⊢
      obtain ⟨-, e3⟩ := orN e3
      exact ⟨_, rfl, num_rng (a := 1) (b := 20) e3 (by decide) (by decide)⟩
    · rw [if_neg z]; exact ⟨1, rfl, by decide, by decide⟩
  have t6 : drpR tn tv nl c.2.2.2 i R 3 = nI (c.2.2.2 + 1) := by unfold drpR; rw [if_neg (by omega), if_neg (by omega), if_neg (by omega), if_neg (by omega), if_pos rfl]
  refine ⟨⟨(ag 0 (by omega) (by omega)).trans w0, w1, (ag 1 (by omega) (by omega)).trans w2, w3, (ag 2 (by omega) (by omega)).trans w4, w5, t6, by show c.2.2.2 + 1 ≤ 20; omega, fun k hk => ?_, fun k hk => ?_, fun k hk => ?_, fun k hk => ?_⟩, by omega⟩
  · have hk : k < c.1 := hk
    obtain ⟨np, P, U, ke, pr, w⟩ := w8 k hk
    exact ⟨np, P, U, ke, pr, w.cong (fun j h1 h2 => ag j (by omega) (by omega))⟩
  · have hk : k < c.2.1 := hk
    exact (w9 k hk).cong (Nat.le_refl _) (fun j h1 h2 => ag j (by omega) (by omega))
  · have hk : k < c.2.2.1 := hk
    exact (wa k hk).cong (fun j h1 h2 => ag j (by omega) (by omega))
  · have hk : k < c.2.2.2 + 1 := hk
    by_cases q2 : k = c.2.2.2
    · subst q2
      exact ⟨⟨_, t0, r0⟩, ⟨_, t1, by omega⟩, ⟨_, t2, r2.2⟩, t3⟩
    · exact (wb k (by omega)).cong (Nat.le_refl _) (fun j h1 h2 => ag j (by omega) (by omega))
theorem pad_wf {tn i : Nat} {tv : Nat → Nat} {nl : NL'} {c : CN} {R : Nat → Int32} (W : WFk R c) (hn : NlOk nl c) (e : padF tn tv nl i R = none) : WFk (padR tn tv nl i R) c := by
  have W0 := W
  obtain ⟨w0, w1, w2, w3, w4, w5, w6, w7, w8, w9, wa, wb⟩ := W0
  unfold padF at e
  obtain ⟨e0, e⟩ := orN e
  obtain ⟨e1, e⟩ := orN e
  obtain ⟨-, e⟩ := orN e
  obtain ⟨e2, e⟩ := orN e
  obtain ⟨e3, e4⟩ := orN e
  obtain ⟨-, e1⟩ := orN e1
  obtain ⟨-, e3⟩ := orN e3
  obtain ⟨-, e4⟩ := orN e4
  have r0 := (tld_in hn e0).2 rfl
  have r9 := (tld_in hn e2).1 rfl
  have r1 : 0 ≤ nv tn tv (i + 3) ∧ nv tn tv (i + 3) ≤ 5 := num_rng (a := 0) (b := 5) e1 (by decide) (by decide)
  have r2 := num_rng (a := 10) (b := 600) e3 (by decide) (by decide)
  have r3 := num_rng (a := 1) (b := 2000) e4 (by decide) (by decide)
  have hP : padP tn tv nl i = 164 + 24 * tldV tn tv nl (i + 1) + 5 + 3 * nv tn tv (i + 3) := rfl
  have ag : ∀ j, (j < padP tn tv nl i ∨ padP tn tv nl i + 3 ≤ j) → padR tn tv nl i R j = R j := fun j hj => by
    unfold padR
    rw [if_neg (by omega), if_neg (by omega), if_neg (by omega)]
  have t0 : padR tn tv nl i R (padP tn tv nl i) = nI (tldV tn tv nl (i + 4) + 1) := if_pos rfl
  have t1 : padR tn tv nl i R (padP tn tv nl i + 1) = nI (nv tn tv (i + 6)) := by unfold padR; rw [if_neg (by omega), if_pos rfl]
  have t2 : padR tn tv nl i R (padP tn tv nl i + 2) = nI (nv tn tv (i + 8)) := by unfold padR; rw [if_neg (by omega), if_neg (by omega), if_pos rfl]
  refine ⟨(ag 0 (by omega)).trans w0, w1, (ag 1 (by omega)).trans w2, w3, (ag 2 (by omega)).trans w4, w5, (ag 3 (by omega)).trans w6, w7, fun k hk => ?_, fun k hk => ?_, fun k hk => ?_, fun k hk => ?_⟩
  · obtain ⟨np, P, U, ke, pr, w⟩ := w8 k hk
    exact ⟨np, P, U, ke, pr, w.cong (fun j h1 h2 => ag j (by omega))⟩
  · by_cases q2 : k = tldV tn tv nl (i + 1)
    · rw [← q2] at hP
      obtain ⟨⟨w', a1⟩, a2, ⟨m', a3⟩, a4⟩ := w9 k hk
      refine ⟨⟨w', by rw [ag _ (by omega)]; exact a1⟩, fun i9 hi => by rw [ag _ (by omega)]; exact a2 i9 hi, ⟨m', by rw [ag _ (by omega)]; exact a3⟩, fun sd hs => ?_⟩
      by_cases q3 : sd = nv tn tv (i + 3)
      · rw [← q3] at hP
        rw [hP] at t0 t1 t2
        exact Or.inr ⟨_, r9, t0, ⟨_, t1, r2⟩, ⟨_, t2, r3⟩⟩
      · rw [ag _ (by omega), ag _ (by omega), ag _ (by omega)]
        exact a4 sd hs
    · exact (w9 k hk).cong (Nat.le_refl _) (fun j h1 h2 => ag j (by omega))
  · exact (wa k hk).cong (fun j h1 h2 => ag j (by omega))
  · exact (wb k hk).cong (Nat.le_refl _) (fun j h1 h2 => ag j (by omega))
theorem fom_wf {tn i : Nat} {tv : Nat → Nat} {nl : NL'} {c : CN} {R : Nat → Int32} (W : WFk R c) (e : fomF tn tv nl c.1 i = none) : WFk (fomR tn tv c.1 i R) (c.1 + 1, c.2.1, c.2.2.1, c.2.2.2) ∧ c.1 < 8 ∧ 2 ≤ fomN tn tv i ∧ fomN tn tv i ≤ 8 ∧ ptsF tn tv (i + 2) 9 0 = .inr (fomN tn tv i) := by
  have W0 := W
  obtain ⟨w0, w1, w2, w3, w4, w5, w6, w7, w8, w9, wa, wb⟩ := W0
  unfold fomF at e
  by_cases q : 8 ≤ c.1
  · rw [if_pos q] at e; exact absurd e (by simp)
  rw [if_neg q] at e
  obtain ⟨-, e⟩ := orN e
  cases hp : ptsF tn tv (i + 2) 9 0 with
  | inl f => rw [hp] at e; exact absurd e (by simp)
  | inr np =>
    rw [hp] at e
    have hN : fomN tn tv i = np := by unfold fomN; rw [hp]
    obtain ⟨e1, e2⟩ := orN e
    obtain ⟨-, e1⟩ := orN e1
    obtain ⟨-, e2⟩ := orN e2
    rw [show i + 2 + 3 * np + 1 = i + 3 + 3 * np by omega] at e1
    rw [show i + 4 + 3 * np + 1 = i + 5 + 3 * np by omega] at e2
    have r1 := num_rng (a := 0) (b := 100) e1 (by decide) (by decide)
    have r2 := num_rng (a := 0) (b := 100) e2 (by decide) (by decide)
    obtain ⟨-, p2, p8, pa⟩ := pts_spec 9 0 np rfl hp (by decide)
    have ag : ∀ j, (j < 4 + 20 * c.1 ∨ 4 + 20 * c.1 + 20 ≤ j) → j ≠ 0 → fomR tn tv c.1 i R j = R j := fun j hj h1 => by
      unfold fomR
      rw [hN, if_neg (by omega), if_neg (by omega), if_neg (by omega), if_neg (by omega), if_neg (by omega), if_neg h1]
    have t0 : fomR tn tv c.1 i R (4 + 20 * c.1) = nI np := by unfold fomR; rw [hN, if_pos rfl]
    have t1 : fomR tn tv c.1 i R (4 + 20 * c.1 + 1) = nI (nv tn tv (i + 3 + 3 * np)) := by unfold fomR; rw [hN, if_neg (by omega), if_pos rfl]
    have t2 : fomR tn tv c.1 i R (4 + 20 * c.1 + 2) = nI (nv tn tv (i + 5 + 3 * np)) := by unfold fomR; rw [hN, if_neg (by omega), if_neg (by omega), if_pos rfl]
    have t3 : ∀ k, k < np → fomR tn tv c.1 i R (4 + 20 * c.1 + 3 + k) = nI (nv tn tv (i + 2 + 3 * k)) := fun k hk => by unfold fomR; rw [hN, if_neg (by omega), if_neg (by omega), if_neg (by omega), if_pos (by omega), show 4 + 20 * c.1 + 3 + k - (4 + 20 * c.1 + 3) = k by omega]
    have t4 : ∀ k, k < np → fomR tn tv c.1 i R (4 + 20 * c.1 + 11 + k) = nI (nv tn tv (i + 4 + 3 * k)) := fun k hk => by unfold fomR; rw [hN, if_neg (by omega), if_neg (by omega), if_neg (by omega), if_neg (by omega), if_pos (by omega), show 4 + 20 * c.1 + 11 + k - (4 + 20 * c.1 + 11) = k by omega]
    have t6 : fomR tn tv c.1 i R 0 = nI (c.1 + 1) := by unfold fomR; rw [if_neg (by omega), if_neg (by omega), if_neg (by omega), if_neg (by omega), if_neg (by omega), if_pos rfl]
    have hpt : ∀ k, k < np → (k = 0 → nv tn tv (i + 2 + 3 * k) = 0) ∧ (¬ k = 0 → nv tn tv (i + 2 + 3 * (k - 1)) + 1 ≤ nv tn tv (i + 2 + 3 * k) ∧ nv tn tv (i + 4 + 3 * (k - 1)) ≤ nv tn tv (i + 4 + 3 * k) ∧ nv tn tv (i + 2 + 3 * k) ≤ 95) ∧ nv tn tv (i + 4 + 3 * k) ≤ 60000 := fun k hk => by
      have a := pa k (by omega) hk
      unfold ptF ptL ptU at a
      obtain ⟨a1, a⟩ := orN a
      obtain ⟨-, a⟩ := orN a
      obtain ⟨-, a2⟩ := orN a
      rw [show i + 2 + 3 * k + 2 = i + 4 + 3 * k by omega] at a2
      by_cases k0 : k = 0
      · subst k0
        rw [if_pos rfl, if_pos rfl] at a1
        rw [if_pos rfl] at a2
        have b1 := num_rng (a := 0) (b := 0) a1 (by decide) (by decide)
        have b2 := num_rng (a := 0) (b := 60000) a2 (by decide) (by decide)
        exact ⟨fun _ => by omega, fun z => absurd rfl z, b2.2⟩
      · rw [if_neg k0, if_neg k0, nI_1] at a1
        rw [if_neg k0, show i + 2 + 3 * (k - 1) + 2 = i + 4 + 3 * (k - 1) by omega] at a2
        have l1 : nv tn tv (i + 2 + 3 * (k - 1)) < 100000 := by
          have a := pa (k - 1) (by omega) (by omega)
          unfold ptF at a
          obtain ⟨a1, -⟩ := orN a
          unfold numF at a1
          by_cases z : kd tn tv (i + 2 + 3 * (k - 1)) = 18
          · exact kd_num z
          · rw [if_neg z] at a1; exact absurd a1 (by simp)
        have l2 : nv tn tv (i + 4 + 3 * (k - 1)) < 100000 := by
          have a := pa (k - 1) (by omega) (by omega)
          unfold ptF at a
          obtain ⟨-, a⟩ := orN a
          obtain ⟨-, a⟩ := orN a
          obtain ⟨-, a1⟩ := orN a
          rw [show i + 2 + 3 * (k - 1) + 2 = i + 4 + 3 * (k - 1) by omega] at a1
          unfold numF at a1
          by_cases z : kd tn tv (i + 4 + 3 * (k - 1)) = 18
          · exact kd_num z
          · rw [if_neg z] at a1; exact absurd a1 (by simp)
        have b1 := num_rng (b := 95) a1 (by omega) (by decide)
        have b2 := num_rng (b := 60000) a2 (by omega) (by decide)
        exact ⟨fun z => absurd z k0, fun _ => ⟨b1.1, b2.1, b1.2⟩, b2.2⟩
    refine ⟨⟨t6, by show c.1 + 1 ≤ 8; omega, (ag 1 (by omega) (by omega)).trans w2, w3, (ag 2 (by omega) (by omega)).trans w4, w5, (ag 3 (by omega) (by omega)).trans w6, w7, fun k hk => ?_, fun k hk => ?_, fun k hk => ?_, fun k hk => ?_⟩, by omega, by omega, by omega, by rw [hN]⟩
    · have hk : k < c.1 + 1 := hk
      by_cases q2 : k = c.1
      · subst q2
        refine ⟨np, fun k => nv tn tv (i + 2 + 3 * k), fun k => nv tn tv (i + 4 + 3 * k), _, _, t0, p2, p8, t3, (hpt 0 (by omega)).1 rfl, fun k hk => ?_, ?_, t4, fun k hk => ?_, (hpt (np - 1) (by omega)).2.2, t1, r1.2, t2, r2.2⟩
        · have := ((hpt (k + 1) hk).2.1 (by omega)).1
          rw [show k + 1 - 1 = k by omega] at this
          exact this
        · exact ((hpt (np - 1) (by omega)).2.1 (by omega)).2.2
        · have := ((hpt (k + 1) hk).2.1 (by omega)).2.1
          rw [show k + 1 - 1 = k by omega] at this
          exact this
      · obtain ⟨np', P, U, ke, pr, w⟩ := w8 k (by omega)
        exact ⟨np', P, U, ke, pr, w.cong (fun j h1 h2 => ag j (by omega) (by omega))⟩
    · have hk : k < c.2.1 := hk
      exact (w9 k hk).cong (Nat.le_succ _) (fun j h1 h2 => ag j (by omega) (by omega))
    · have hk : k < c.2.2.1 := hk
      exact (wa k hk).cong (fun j h1 h2 => ag j (by omega) (by omega))
    · have hk : k < c.2.2.2 := hk
      exact (wb k hk).cong (Nat.le_refl _) (fun j h1 h2 => ag j (by omega) (by omega))

/-- a THING as told, at the place t of a record with nf FOAMS -/
def WFt (rec : Nat → Int32) (t nf : Nat) : Prop := (∃ w, rec t = nI w ∧ 1 ≤ w ∧ w ≤ 60000) ∧ (∀ i, i < 3 → ∃ z, rec (t + 1 + i) = nI z ∧ 1 ≤ z ∧ z ≤ 9999) ∧ (∃ m, rec (t + 4) = nI m ∧ 1 ≤ m ∧ m ≤ 60000) ∧
  ∀ sd, sd < 6 → rec (t + 5 + 3 * sd) = 0 ∨ ∃ k, k < nf ∧ rec (t + 5 + 3 * sd) = nI (k + 1) ∧ (∃ z, rec (t + 5 + 3 * sd + 1) = nI z ∧ 10 ≤ z ∧ z ≤ 600) ∧ ∃ z, rec (t + 5 + 3 * sd + 2) = nI z ∧ 1 ≤ z ∧ z ≤ 2000
def WFb (rec : Nat → Int32) (b : Nat) : Prop := (∀ i, i < 3 → ∃ z, rec (b + i) = nI z ∧ 1 ≤ z ∧ z ≤ 9999) ∧ (∃ z, rec (b + 3) = nI z ∧ z ≤ 10000) ∧ ∃ z, rec (b + 4) = nI z ∧ 1 ≤ z ∧ z ≤ 60000
def WFd (rec : Nat → Int32) (d nt : Nat) : Prop := (∃ z, rec d = nI z ∧ z < nt) ∧ (∃ z, rec (d + 1) = nI z ∧ z < 6) ∧ (∃ z, rec (d + 2) = nI z ∧ z ≤ 30000) ∧ ∃ z, rec (d + 3) = nI z ∧ 1 ≤ z ∧ z ≤ 20
/-- a book as told: nf FOAMS, nt THINGS, nb BOXES, nd DROPS -/
def WFr (rec : Nat → Int32) (nf nt nb nd : Nat) : Prop := rec 0 = nI nf ∧ nf ≤ 8 ∧ rec 1 = nI nt ∧ nt ≤ 8 ∧ rec 2 = nI nb ∧ nb ≤ 8 ∧ rec 3 = nI nd ∧ nd ≤ 20 ∧ (∀ k, k < nf → ∃ np P U ke pr, WFf rec (4 + 20 * k) np P U ke pr) ∧ (∀ k, k < nt → WFt rec (164 + 24 * k) nf) ∧ (∀ k, k < nb → WFb rec (356 + 6 * k)) ∧ ∀ k, k < nd → WFd rec (404 + 4 * k) nt
def ThingAt (h : List PE) (rec : Nat → Int32) (t : Nat) (fq : Nat → Nat) (a : Nat) : Prop := 51 ≤ a ∧ ∃ (s1 s2 s3 s4 : Nat) (z1 : Nat → Int32) (z2 : Nat → Option Nat) (z3 z4 : Nat → Int32), 51 ≤ s1 ∧ 51 ≤ s2 ∧ 51 ≤ s3 ∧ 51 ≤ s4 ∧ h[a]? = some (cO 9 [.ref s1, .ref s2, .ref s3, .ref s4, .int (rec t), .int (rec (t + 4))]) ∧ h[s1]? = some (cI 3 z1) ∧ h[s2]? = some (cR 4 6 z2) ∧ h[s3]? = some (cI 6 z3) ∧ h[s4]? = some (cI 6 z4) ∧ (∀ i, i < 3 → z1 i = rec (t + 1 + i)) ∧
  ∀ sd, sd < 6 → (rec (t + 5 + 3 * sd) = 0 → z2 sd = none) ∧ (∀ k, k < 8 → rec (t + 5 + 3 * sd) = nI (k + 1) → z2 sd = some (fq k)) ∧ z3 sd = rec (t + 5 + 3 * sd + 1) ∧ z4 sd = rec (t + 5 + 3 * sd + 2)
def BoxAt (h : List PE) (rec : Nat → Int32) (b a : Nat) : Prop := 51 ≤ a ∧ ∃ (p : Nat) (z : Nat → Int32), 51 ≤ p ∧ h[a]? = some (cO 2 [.ref p, .int (rec (b + 3)), .int (rec (b + 4))]) ∧ h[p]? = some (cI 3 z) ∧ ∀ i, i < 3 → z i = rec (b + i)
def DropAt (h : List PE) (rec : Nat → Int32) (d a : Nat) : Prop := 51 ≤ a ∧ h[a]? = some (cO 5 [.int (rec d), .int (rec (d + 1)), .int (rec (d + 2)), .int (rec (d + 3))])
/-- a Book's cells: the record's -/
def BookAt (h : List PE) (rec : Nat → Int32) (nf nt nb nd : Nat) (a : Nat) (day : Int32) : Prop := 16 ≤ a ∧ ∃ (b1 b2 b3 b4 : Nat) (fq tq bq dq : Nat → Nat) (zf zt zb zd : Nat → Option Nat) (lines : Int32), 17 ≤ b1 ∧ 17 ≤ b2 ∧ 17 ≤ b3 ∧ 17 ≤ b4 ∧ (a = 16 ∧ b1 = 17 ∧ b2 = 18 ∧ b3 = 19 ∧ b4 = 20 ∨ 51 ≤ a ∧ 51 ≤ b1 ∧ 51 ≤ b2 ∧ 51 ≤ b3 ∧ 51 ≤ b4) ∧ h[a]? = some (cO 0 [.ref b1, .ref b2, .ref b3, .ref b4, .int (nI nf), .int (nI nt), .int (nI nb), .int (nI nd), .int lines, .int day]) ∧ h[b1]? = some (cR 4 8 zf) ∧ h[b2]? = some (cR 5 8 zt) ∧ h[b3]? = some (cR 6 8 zb) ∧ h[b4]? = some (cR 7 20 zd) ∧
  (∀ k, k < nf → zf k = some (fq k) ∧ ∀ np, rec (4 + 20 * k) = nI np → np ≤ 8 → FoamAt h rec (4 + 20 * k) np (fq k)) ∧ (∀ k, k < nt → zt k = some (tq k) ∧ ThingAt h rec (164 + 24 * k) fq (tq k)) ∧ (∀ k, k < nb → zb k = some (bq k) ∧ BoxAt h rec (356 + 6 * k) (bq k)) ∧ ∀ k, k < nd → zd k = some (dq k) ∧ DropAt h rec (404 + 4 * k) (dq k)
/-- cells that a frame leaves alone -/
def Keep (L : List Nat) : Prop := ∀ j, j ∈ L → j ≠ 16 ∧ j ≠ 17 ∧ j ≠ 18 ∧ j ≠ 19 ∧ j ≠ 20 ∧ j < 51
theorem FoamAt.kept {h h1 : List PE} {rec : Nat → Int32} {f np a : Nat} (x : FoamAt h rec f np a) (e : ∀ j c, 51 ≤ j → h[j]? = some c → h1[j]? = some c) : FoamAt h1 rec f np a := by
  obtain ⟨h0, p, q, g1, g2, hp, hq, r1, r2, r3, r4⟩ := x
  exact ⟨h0, p, q, g1, g2, hp, hq, e _ _ h0 r1, e _ _ hp r2, e _ _ hq r3, r4⟩
theorem ThingAt.kept {h h1 : List PE} {rec : Nat → Int32} {t a : Nat} {fq : Nat → Nat} (x : ThingAt h rec t fq a) (e : ∀ j c, 51 ≤ j → h[j]? = some c → h1[j]? = some c) : ThingAt h1 rec t fq a := by
  obtain ⟨h0, s1, s2, s3, s4, z1, z2, z3, z4, q1, q2, q3, q4, r0, r1, r2, r3, r4, r5⟩ := x
  exact ⟨h0, s1, s2, s3, s4, z1, z2, z3, z4, q1, q2, q3, q4, e _ _ h0 r0, e _ _ q1 r1, e _ _ q2 r2, e _ _ q3 r3, e _ _ q4 r4, r5⟩
theorem BoxAt.kept {h h1 : List PE} {rec : Nat → Int32} {b a : Nat} (x : BoxAt h rec b a) (e : ∀ j c, 51 ≤ j → h[j]? = some c → h1[j]? = some c) : BoxAt h1 rec b a := by
  obtain ⟨h0, p, z, hp, r1, r2, r3⟩ := x
  exact ⟨h0, p, z, hp, e _ _ h0 r1, e _ _ hp r2, r3⟩
theorem DropAt.kept {h h1 : List PE} {rec : Nat → Int32} {d a : Nat} (x : DropAt h rec d a) (e : ∀ j c, 51 ≤ j → h[j]? = some c → h1[j]? = some c) : DropAt h1 rec d a := ⟨x.1, e _ _ x.1 x.2⟩
theorem BookAt.kept {h h1 : List PE} {rec : Nat → Int32} {nf nt nb nd a : Nat} {day : Int32} (x : BookAt h rec nf nt nb nd a day) (e : ∀ j c, (51 ≤ j ∨ j = 16 ∨ j = 17 ∨ j = 18 ∨ j = 19 ∨ j = 20) → h[j]? = some c → h1[j]? = some c) : BookAt h1 rec nf nt nb nd a day := by
  have e9 : ∀ j c, 51 ≤ j → h[j]? = some c → h1[j]? = some c := fun j c hj hc => e j c (Or.inl hj) hc
  obtain ⟨h0, b1, b2, b3, b4, fq, tq, bq, dq, zf, zt, zb, zd, lines, q1, q2, q3, q4, q5, r0, r1, r2, r3, r4, k1, k2, k3, k4⟩ := x
  refine ⟨h0, b1, b2, b3, b4, fq, tq, bq, dq, zf, zt, zb, zd, lines, q1, q2, q3, q4, q5, e _ _ (by omega) r0, e _ _ (by omega) r1, e _ _ (by omega) r2, e _ _ (by omega) r3, e _ _ (by omega) r4, fun k hk => ⟨(k1 k hk).1, fun np h1 h2 => ((k1 k hk).2 np h1 h2).kept e9⟩, fun k hk => ⟨(k2 k hk).1, (k2 k hk).2.kept e9⟩, fun k hk => ⟨(k3 k hk).1, (k3 k hk).2.kept e9⟩, fun k hk => ⟨(k4 k hk).1, (k4 k hk).2.kept e9⟩⟩
theorem Sm.keep {L : List Nat} {h h1 : List PE} (a : Sm L h h1) (hL : Keep L) : ∀ j c, (51 ≤ j ∨ j = 16 ∨ j = 17 ∨ j = 18 ∨ j = 19 ∨ j = 20) → h[j]? = some c → h1[j]? = some c := fun j c hj hc => a.at hc (fun q => by have := hL j q; omega)

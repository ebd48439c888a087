/-! ===== what the two sides hold between calls =====
 the told state: n books, today, tape of tn bytes tv, days, records, their counts, fault, broken time, latest pads, latest set -/
abbrev ST : Type := Nat × Nat × Nat × (Nat → Nat) × (Nat → Int32) × (Nat → Nat → Int32) × (Nat → Nat × Nat × Nat × Nat) × Int32 × Int32 × (Nat → Int32) × Int32
abbrev s_n (s : ST) : Nat := s.1
abbrev s_td (s : ST) : Nat := s.2.1
abbrev s_tn (s : ST) : Nat := s.2.2.1
abbrev s_tv (s : ST) : Nat → Nat := s.2.2.2.1
abbrev s_dy (s : ST) : Nat → Int32 := s.2.2.2.2.1
abbrev s_rc (s : ST) : Nat → Nat → Int32 := s.2.2.2.2.2.1
abbrev s_ct (s : ST) : Nat → Nat × Nat × Nat × Nat := s.2.2.2.2.2.2.1
abbrev s_fl (s : ST) : Int32 := s.2.2.2.2.2.2.2.1
abbrev s_br (s : ST) : Int32 := s.2.2.2.2.2.2.2.2.1
abbrev s_pk (s : ST) : Nat → Int32 := s.2.2.2.2.2.2.2.2.2.1
abbrev s_bs (s : ST) : Int32 := s.2.2.2.2.2.2.2.2.2.2
abbrev WFk (rec : Nat → Int32) (c : Nat × Nat × Nat × Nat) : Prop := WFr rec c.1 c.2.1 c.2.2.1 c.2.2.2
def WS (s : ST) : Prop := s_n s ≤ 20 ∧ s_td s ≤ 999 ∧ s_tn s ≤ 640 ∧ (∀ j, j < s_tn s → s_tv s j < 256) ∧ ∀ k, k < s_n s → WFk (s_rc s k) (s_ct s k)
def FaR (h : List PE) (n td : Nat) (fk br : Int32) : Prop := h[3]? = some (cO 11 [.ref 4, .ref 6, .ref 15, .ref 16, .ref 21, .ref 25, .ref 32, .ref 35, .int (nI n), .int (nI td), .int fk, .int br])
def TpR (h : List PE) (tn : Nat) (tv : Nat → Nat) : Prop := ∃ tb : Nat → Int32, h[4]? = some (cO 8 [.ref 5, .int (nI tn)]) ∧ h[5]? = some (cB 640 tb) ∧ ∀ j, j < tn → tb j &&& 255 = nI (tv j)
def BkR (h : List PE) (n : Nat) (dy : Nat → Int32) (rc : Nat → Nat → Int32) (ct : Nat → Nat × Nat × Nat × Nat) : Prop := ∃ (zb : Nat → Option Nat) (bq : Nat → Nat), h[15]? = some (cR 8 20 zb) ∧ (∀ k, k < n → zb k = some (bq k) ∧ 51 ≤ bq k ∧ BookAt h (rc k) (ct k).1 (ct k).2.1 (ct k).2.2.1 (ct k).2.2.2 (bq k) (dy k)) ∧ BookAt h (fun _ => 0) 0 0 0 0 16 0
def CuR (h : List PE) : Prop := ∃ (thick area : Int64) (keeps kept : Int32) (c : Nat) (fr pu : Nat → Int32) (sv : Nat → Int64), h[21]? = some (cO 4 [.ref 22, .ref 23, .ref 24, .int (lcI c), .long thick, .long area, .int keeps, .int kept]) ∧ h[22]? = some (cI 96 fr) ∧ h[23]? = some (cI 96 pu) ∧ h[24]? = some (cJ 96 sv) ∧ c ≤ 96
def PcR (h : List PE) (pk : Nat → Int32) : Prop := ∃ (kn : Int32) (z1 z2 z3 z4 z5 z6 : Nat → Int32), h[25]? = some (cO 7 [.ref 26, .ref 27, .ref 28, .ref 29, .ref 30, .ref 31, .int kn]) ∧ h[26]? = some (cI 10 z1) ∧ h[27]? = some (cI 10 z2) ∧ h[28]? = some (cI 10 z3) ∧ h[29]? = some (cI 10 z4) ∧ h[30]? = some (cI 6 z5) ∧ h[31]? = some (cI 6 z6) ∧ ∀ j, j < 6 → z6 j = pk j
def BxR (h : List PE) (bs : Int32) : Prop := ∃ (tc bc : Int32) (z1 z2 : Nat → Int32), h[32]? = some (cO 3 [.ref 33, .ref 34, .int tc, .int bc, .int bs]) ∧ h[33]? = some (cI 8 z1) ∧ h[34]? = some (cI 8 z2)
def KpR (h : List PE) : Prop := ∃ z : Nat → Int32, h[35]? = some (cI 6 z)
/-- the model's side -/
def MoR (h : List PE) (s : ST) : Prop := ∃ (thr siz too frm knd num sgn plc : Int32) (wrd : Int64) (tld now lst pfo thk are ipd : Int32) (mt bk dy : Nat → Int32) (nm : Nat → Int64) (cv : Nat → Int32) (sv : Nat → Int64) (k1 k2 k3 k4 k5 k6 k7 : Nat → Int32),
  h[36]? = some (cO 12 (MO thr (nI (s_tn s)) (nI (s_td s)) (nI (s_n s)) siz too frm knd num sgn (s_fl s) plc wrd tld now lst pfo thk are (s_br s) ipd (s_bs s))) ∧ h[37]? = some (cI 640 mt) ∧ h[38]? = some (cI 10164 bk) ∧ h[39]? = some (cI 20 dy) ∧ h[40]? = some (cJ 24 nm) ∧ h[41]? = some (cI 96 cv) ∧ h[42]? = some (cJ 96 sv) ∧ h[43]? = some (cI 6 k1) ∧ h[44]? = some (cI 10 k2) ∧ h[45]? = some (cI 10 k3) ∧ h[46]? = some (cI 10 k4) ∧ h[47]? = some (cI 6 k5) ∧ h[48]? = some (cI 6 k6) ∧ h[49]? = some (cZ 10 k7) ∧
  (∀ j, j < s_tn s → mt j = nI (s_tv s j)) ∧ (∀ k, k < s_n s → dy k = s_dy s k ∧ ∀ j, j < 484 → bk (484 * k + j) = s_rc s k j) ∧ (ipd = 0 ∧ (∀ j, j < 6 → s_pk s j = -1) ∨ ipd = 1 ∧ ∀ j, j < 6 → k5 j = s_pk s j)
theorem FaR.kept {h h1 : List PE} {n td : Nat} {fk br : Int32} (x : FaR h n td fk br) (e : h1[3]? = h[3]?) : FaR h1 n td fk br := e.trans x
theorem TpR.kept {h h1 : List PE} {tn : Nat} {tv : Nat → Nat} (x : TpR h tn tv) (e : ∀ j, j ∈ [4, 5] → h1[j]? = h[j]?) : TpR h1 tn tv := by
  obtain ⟨tb, a, b, c⟩ := x
  exact ⟨tb, (e 4 (by decide)).trans a, (e 5 (by decide)).trans b, c⟩
theorem CuR.kept {h h1 : List PE} (x : CuR h) (e : ∀ j, j ∈ [21, 22, 23, 24] → h1[j]? = h[j]?) : CuR h1 := by
  obtain ⟨t, a, k, kt, c, fr, pu, sv, q1, q2, q3, q4, q5⟩ := x
  exact ⟨t, a, k, kt, c, fr, pu, sv, (e 21 (by decide)).trans q1, (e 22 (by decide)).trans q2, (e 23 (by decide)).trans q3, (e 24 (by decide)).trans q4, q5⟩
theorem PcR.kept {h h1 : List PE} {pk : Nat → Int32} (x : PcR h pk) (e : ∀ j, j ∈ [25, 26, 27, 28, 29, 30, 31] → h1[j]? = h[j]?) : PcR h1 pk := by
  obtain ⟨kn, z1, z2, z3, z4, z5, z6, q0, q1, q2, q3, q4, q5, q6, q7⟩ := x
  exact ⟨kn, z1, z2, z3, z4, z5, z6, (e 25 (by decide)).trans q0, (e 26 (by decide)).trans q1, (e 27 (by decide)).trans q2, (e 28 (by decide)).trans q3, (e 29 (by decide)).trans q4, (e 30 (by decide)).trans q5, (e 31 (by decide)).trans q6, q7⟩
theorem BxR.kept {h h1 : List PE} {bs : Int32} (x : BxR h bs) (e : ∀ j, j ∈ [32, 33, 34] → h1[j]? = h[j]?) : BxR h1 bs := by
  obtain ⟨tc, bc, z1, z2, q0, q1, q2⟩ := x
  exact ⟨tc, bc, z1, z2, (e 32 (by decide)).trans q0, (e 33 (by decide)).trans q1, (e 34 (by decide)).trans q2⟩
theorem KpR.kept {h h1 : List PE} (x : KpR h) (e : h1[35]? = h[35]?) : KpR h1 := by
  obtain ⟨z, q⟩ := x
  exact ⟨z, e.trans q⟩
theorem BkR.kept {h h1 : List PE} {n : Nat} {dy : Nat → Int32} {rc : Nat → Nat → Int32} {ct : Nat → Nat × Nat × Nat × Nat} (x : BkR h n dy rc ct) (e15 : h1[15]? = h[15]?) (e : ∀ j c, (51 ≤ j ∨ j = 16 ∨ j = 17 ∨ j = 18 ∨ j = 19 ∨ j = 20) → h[j]? = some c → h1[j]? = some c) : BkR h1 n dy rc ct := by
  obtain ⟨zb, bq, q1, q2, q3⟩ := x
  exact ⟨zb, bq, e15.trans q1, fun k hk => ⟨(q2 k hk).1, (q2 k hk).2.1, (q2 k hk).2.2.kept e⟩, q3.kept e⟩
theorem MoR.kept {h h1 : List PE} {s : ST} (x : MoR h s) (e : ∀ j, 36 ≤ j → j < 50 → h1[j]? = h[j]?) : MoR h1 s := by
  obtain ⟨thr, siz, too, frm, knd, num, sgn, plc, wrd, tld, now, lst, pfo, thk, are, ipd, mt, bk, dy, nm, cv, sv, k1, k2, k3, k4, k5, k6, k7, a0, a1, a2, a3, a4, a5, a6, a7, a8, a9, b1, b2, b3, b4, r⟩ := x
  exact ⟨thr, siz, too, frm, knd, num, sgn, plc, wrd, tld, now, lst, pfo, thk, are, ipd, mt, bk, dy, nm, cv, sv, k1, k2, k3, k4, k5, k6, k7, (e 36 (by decide) (by decide)).trans a0, (e 37 (by decide) (by decide)).trans a1, (e 38 (by decide) (by decide)).trans a2, (e 39 (by decide) (by decide)).trans a3, (e 40 (by decide) (by decide)).trans a4, (e 41 (by decide) (by decide)).trans a5, (e 42 (by decide) (by decide)).trans a6, (e 43 (by decide) (by decide)).trans a7, (e 44 (by decide) (by decide)).trans a8, (e 45 (by decide) (by decide)).trans a9, (e 46 (by decide) (by decide)).trans b1, (e 47 (by decide) (by decide)).trans b2, (e 48 (by decide) (by decide)).trans b3, (e 49 (by decide) (by decide)).trans b4, r⟩
theorem BkR.days {h : List PE} {n : Nat} {dy : Nat → Int32} {rc : Nat → Nat → Int32} {ct : Nat → Nat × Nat × Nat × Nat} (x : BkR h n dy rc ct) : ∃ (zb : Nat → Option Nat) (bq : Nat → Nat), h[15]? = some (cR 8 20 zb) ∧ DaysAt h n bq dy zb ∧ (∀ k, k < n → 51 ≤ bq k ∧ BookAt h (rc k) (ct k).1 (ct k).2.1 (ct k).2.2.1 (ct k).2.2.2 (bq k) (dy k)) ∧ BookAt h (fun _ => 0) 0 0 0 0 16 0 := by
  obtain ⟨zb, bq, q1, q2, q3⟩ := x
  refine ⟨zb, bq, q1, fun k hk => ?_, fun k hk => (q2 k hk).2, q3⟩
  obtain ⟨a, b, c⟩ := q2 k hk
  obtain ⟨-, b1, b2, b3, b4, fq, tq, bq', dq, zf, zt, zb', zd, lines, -, -, -, -, -, r0, -⟩ := c
  exact ⟨a, b, _, r0, rfl, rfl⟩

/-- the book AS OF t: the empty text where there is none -/
def curR (n : Nat) (dy : Nat → Int32) (rc : Nat → Nat → Int32) (t : Int32) : Nat → Int32 := match lastB dy t n with
  | none => fun _ => 0
  | some b => rc b
def curC (n : Nat) (dy : Nat → Int32) (ct : Nat → Nat × Nat × Nat × Nat) (t : Int32) : Nat × Nat × Nat × Nat := match lastB dy t n with
  | none => (0, 0, 0, 0)
  | some b => ct b
theorem WFk_0 : WFk (fun _ => 0) (0, 0, 0, 0) := ⟨rfl, by decide, rfl, by decide, rfl, by decide, rfl, by decide, fun k hk => absurd hk (by simp), fun k hk => absurd hk (by simp), fun k hk => absurd hk (by simp), fun k hk => absurd hk (by simp)⟩
theorem cur_wf {n : Nat} {dy : Nat → Int32} {rc : Nat → Nat → Int32} {ct : Nat → Nat × Nat × Nat × Nat} {t : Int32} (h : ∀ k, k < n → WFk (rc k) (ct k)) : WFk (curR n dy rc t) (curC n dy ct t) := by
  unfold curR curC
  cases e : lastB dy t n with
  | none => exact WFk_0
  | some b => exact h b (lastB_lt e)
theorem BkR.cur {h : List PE} {n : Nat} {dy : Nat → Int32} {rc : Nat → Nat → Int32} {ct : Nat → Nat × Nat × Nat × Nat} (x : BkR h n dy rc ct) (t : Int32) : ∃ (zb : Nat → Option Nat) (bq : Nat → Nat) (ab : Nat) (day : Int32), h[15]? = some (cR 8 20 zb) ∧ DaysAt h n bq dy zb ∧ bookOf bq (lastB dy t n) = ab ∧ BookAt h (curR n dy rc t) (curC n dy ct t).1 (curC n dy ct t).2.1 (curC n dy ct t).2.2.1 (curC n dy ct t).2.2.2 ab day := by
  obtain ⟨zb, bq, q1, q2, q3, q4⟩ := x.days
  unfold curR curC
  cases e : lastB dy t n with
  | none => exact ⟨zb, bq, 16, 0, q1, q2, rfl, q4⟩
  | some b => exact ⟨zb, bq, bq b, dy b, q1, q2, rfl, (q3 b (lastB_lt e)).2⟩
/-- the numbers of a PAD -/
def pcN (rec : Nat → Int32) (t sd : Nat) : Nat := match pdF rec t sd with
  | none => 0
  | some k => cnR rec (4 + 20 * k)
noncomputable def frP (rec : Nat → Int32) (t sd : Nat) : Nat → Int32 := match pdF rec t sd with
  | none => fun _ => 0
  | some k => frR rec (4 + 20 * k)
noncomputable def cuP (rec : Nat → Int32) (t sd : Nat) (kept : Int32) : Nat → Int32 := match pdF rec t sd with
  | none => fun _ => 0
  | some k => cuR rec (4 + 20 * k) kept
noncomputable def stP (rec : Nat → Int32) (t sd : Nat) (kept : Int32) : Nat → Int64 := match pdF rec t sd with
  | none => fun _ => 0
  | some k => stR rec (4 + 20 * k) kept
def keP (rec : Nat → Int32) (t sd : Nat) : Int32 := match pdF rec t sd with
  | none => 0
  | some k => rec (4 + 20 * k + 1)
theorem SQ_P {rec : Nat → Int32} {t sd : Nat} {kept w h : Int32} : SQ rec t sd kept w h = sqF (stP rec t sd kept) w.toInt64 h.toInt64 (thR rec t sd) (arR rec t sd) 0 (pcN rec t sd) := by
  unfold SQ stP pcN
  cases pdF rec t sd <;> rfl
theorem BL_P {rec : Nat → Int32} {t sd : Nat} {kept w h : Int32} : BL rec t sd kept w h = blO (stP rec t sd kept) (cuP rec t sd kept) (pcN rec t sd) (thR rec t sd) (arR rec t sd) w h := by
  unfold BL stP pcN cuP
  cases pdF rec t sd <;> rfl
theorem HO_P {rec : Nat → Int32} {t sd : Nat} {kept w h mark : Int32} : HO rec t sd kept w h mark = hoF (stP rec t sd kept) (cuP rec t sd kept) (pcN rec t sd) (thR rec t sd) (arR rec t sd) w h mark := by
  unfold HO stP pcN cuP
  cases pdF rec t sd with
  | none => rfl
  | some k => rfl
theorem cuP_eq {rec : Nat → Int32} {t sd : Nat} {kept : Int32} {x : Nat} : cuP rec t sd kept x = if (pdF rec t sd) = none then 0 else frP rec t sd x * kept / 100 := by
  unfold cuP frP
  cases pdF rec t sd with
  | none => rfl
  | some k => rfl
theorem stP_eq {rec : Nat → Int32} {t sd : Nat} {kept : Int32} {x : Nat} (hx : x < pcN rec t sd) : stP rec t sd kept x = stoF (cuP rec t sd kept) x := by
  unfold pcN at hx
  unfold stP cuP
  cases e : pdF rec t sd with
  | none => rw [e] at hx; exact absurd hx (Nat.not_lt_zero _)
  | some k => rfl
theorem pd_wf {rec : Nat → Int32} {t nf sd : Nat} (W : WFt rec t nf) (hn : nf ≤ 8) (hs : sd < 6) : pdF rec t sd = none ∧ rec (t + 5 + 3 * sd) = 0 ∨ ∃ k, pdF rec t sd = some k ∧ k < nf ∧ rec (t + 5 + 3 * sd) = nI (k + 1) := by
  rcases W.2.2.2 sd hs with e | ⟨k, h1, h2, -⟩
  · exact Or.inl ⟨by unfold pdF; rw [if_pos e], e⟩
  · refine Or.inr ⟨k, ?_, h1, h2⟩
    unfold pdF
    rw [if_neg (by rw [h2]; exact nI_ne0 (by omega) (by omega)), h2, nI_clamp (by omega)]
    rfl
theorem pcN_le {rec : Nat → Int32} {t sd : Nat} {c : Nat × Nat × Nat × Nat} (W : WFk rec c) (hW : WFt rec t c.1) (hs : sd < 6) : pcN rec t sd ≤ 96 := by
  unfold pcN
  rcases pd_wf hW W.2.1 hs with ⟨e, -⟩ | ⟨k, e, hk, -⟩
  · rw [e]; exact Nat.zero_le _
  · rw [e]
    obtain ⟨np, P, U, ke, pr, w⟩ := W.2.2.2.2.2.2.2.2.1 k hk
    exact cnR_le w.canon
/-- the Cushion bears the THING's PAD, worn to kept -/
def Laid (h : List PE) (rec : Nat → Int32) (t sd : Nat) (kept : Int32) : Prop := ∃ (fr pu : Nat → Int32) (sv : Nat → Int64), h[21]? = some (cO 4 [.ref 22, .ref 23, .ref 24, .int (lcI (pcN rec t sd)), .long (thR rec t sd), .long (arR rec t sd), .int (keP rec t sd), .int kept]) ∧ h[22]? = some (cI 96 fr) ∧ h[23]? = some (cI 96 pu) ∧ h[24]? = some (cJ 96 sv) ∧ (∀ x, x < pcN rec t sd → fr x = frP rec t sd x) ∧ (∀ x, x < pcN rec t sd → pu x = cuP rec t sd kept x) ∧ ∀ x, x < pcN rec t sd → sv x = stP rec t sd kept x
theorem Laid.cu {h : List PE} {rec : Nat → Int32} {t sd : Nat} {kept : Int32} (x : Laid h rec t sd kept) (hp : pcN rec t sd ≤ 96) : CuR h := by
  obtain ⟨fr, pu, sv, q1, q2, q3, q4, -⟩ := x
  exact ⟨_, _, _, _, _, fr, pu, sv, q1, q2, q3, q4, hp⟩
theorem Laid.kept {h h1 : List PE} {rec : Nat → Int32} {t sd : Nat} {kept : Int32} (x : Laid h rec t sd kept) (e : ∀ j, j ∈ [21, 22, 23, 24] → h1[j]? = h[j]?) : Laid h1 rec t sd kept := by
  obtain ⟨fr, pu, sv, q1, q2, q3, q4, r⟩ := x
  exact ⟨fr, pu, sv, (e 21 (by decide)).trans q1, (e 22 (by decide)).trans q2, (e 23 (by decide)).trans q3, (e 24 (by decide)).trans q4, r⟩
/-- wearing, behind a laying -/
theorem laid_of {h : List PE} {rec : Nat → Int32} {t sd : Nat} {kept : Int32} {fr pu : Nat → Int32} {sv : Nat → Int64} (q1 : h[21]? = some (cO 4 [.ref 22, .ref 23, .ref 24, .int (lcI (pcN rec t sd)), .long (thR rec t sd), .long (arR rec t sd), .int (keP rec t sd), .int kept])) (q2 : h[22]? = some (cI 96 fr)) (q3 : h[23]? = some (cI 96 pu)) (q4 : h[24]? = some (cJ 96 sv)) (e1 : ∀ x, x < pcN rec t sd → fr x = frP rec t sd x) (e2 : ∀ x, x < pcN rec t sd → pu x = fr x * kept / 100) (e3 : ∀ x, x < pcN rec t sd → sv x = stoF pu x) : Laid h rec t sd kept := by
  have e4 : ∀ x, x < pcN rec t sd → pu x = cuP rec t sd kept x := fun x hx => by
    rw [e2 x hx, e1 x hx, cuP_eq, if_neg]
    intro q
    unfold pcN at hx
    rw [q] at hx
    exact absurd hx (Nat.not_lt_zero _)
  exact ⟨fr, pu, sv, q1, q2, q3, q4, e1, e4, fun x hx => by rw [e3 x hx, stP_eq hx]; exact stoF_cong (fun i hi => e4 i (by omega))⟩

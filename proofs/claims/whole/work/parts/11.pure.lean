section XP
variable {Ω : Type} {F : FT Ω} {G : GT} {M : MT} {rf rl pc : Nat} {lv : List (Nat × Value)} {st : List Value} {h : List PE} {Q : Ω → Prop}
/-- fewer locals, in any order -/
theorem x_perm {lv2 : List (Nat × Value)} (ks : List Nat) (hl : lv_pick lv ks = lv2) (k : X F G M rf rl pc lv2 st h Q) : X F G M rf rl pc lv st h Q := by
  refine X.stepL (fun p e R s m args below meth c H locs a n ls Z C hv w => w ls (lv_sub hv ks ?_)) k
  subst hl
  unfold lv_pick g_l
  rw [List.map_filterMap]
  congr 1
  funext i
  rw [List.getElem?_map]
theorem x_lif_lt {x y : Int64} {off : Int} {tgt : Nat} (hc : decode M.2.1 pc = .ok (.lcmp, 1)) (hd : decode M.2.1 (pc + 1) = .ok (.ifCond .lt off, 3)) (ht : ((pc + 1 : Nat) : Int) + off = (tgt : Int)) (kt : x < y → X F G M rf rl tgt lv st h Q) (kf : ¬ x < y → X F G M rf rl (pc + 4) lv st h Q) : X F G M rf rl pc lv (.long y :: .long x :: st) h Q := x_lcmp hc (x_if_lt hd ht (fun q => kt ((lg_cmp_lt x y).mp q)) (fun q => kf (fun z => q ((lg_cmp_lt x y).mpr z))))
theorem x_lif_ge {x y : Int64} {off : Int} {tgt : Nat} (hc : decode M.2.1 pc = .ok (.lcmp, 1)) (hd : decode M.2.1 (pc + 1) = .ok (.ifCond .ge off, 3)) (ht : ((pc + 1 : Nat) : Int) + off = (tgt : Int)) (kt : y ≤ x → X F G M rf rl tgt lv st h Q) (kf : ¬ y ≤ x → X F G M rf rl (pc + 4) lv st h Q) : X F G M rf rl pc lv (.long y :: .long x :: st) h Q := x_lcmp hc (x_if_ge hd ht (fun q => kt ((lg_cmp_ge x y).mp q)) (fun q => kf (fun z => q ((lg_cmp_ge x y).mpr z))))
theorem x_lif_gt {x y : Int64} {off : Int} {tgt : Nat} (hc : decode M.2.1 pc = .ok (.lcmp, 1)) (hd : decode M.2.1 (pc + 1) = .ok (.ifCond .gt off, 3)) (ht : ((pc + 1 : Nat) : Int) + off = (tgt : Int)) (kt : y < x → X F G M rf rl tgt lv st h Q) (kf : ¬ y < x → X F G M rf rl (pc + 4) lv st h Q) : X F G M rf rl pc lv (.long y :: .long x :: st) h Q := x_lcmp hc (x_if_gt hd ht (fun q => kt ((lg_cmp_gt x y).mp q)) (fun q => kf (fun z => q ((lg_cmp_gt x y).mpr z))))
theorem x_lif_le {x y : Int64} {off : Int} {tgt : Nat} (hc : decode M.2.1 pc = .ok (.lcmp, 1)) (hd : decode M.2.1 (pc + 1) = .ok (.ifCond .le off, 3)) (ht : ((pc + 1 : Nat) : Int) + off = (tgt : Int)) (kt : x ≤ y → X F G M rf rl tgt lv st h Q) (kf : ¬ x ≤ y → X F G M rf rl (pc + 4) lv st h Q) : X F G M rf rl pc lv (.long y :: .long x :: st) h Q := x_lcmp hc (x_if_le hd ht (fun q => kt ((lg_cmp_le x y).mp q)) (fun q => kf (fun z => q ((lg_cmp_le x y).mpr z))))
theorem x_lif_eq {x y : Int64} {off : Int} {tgt : Nat} (hc : decode M.2.1 pc = .ok (.lcmp, 1)) (hd : decode M.2.1 (pc + 1) = .ok (.ifCond .eq off, 3)) (ht : ((pc + 1 : Nat) : Int) + off = (tgt : Int)) (kt : x = y → X F G M rf rl tgt lv st h Q) (kf : ¬ x = y → X F G M rf rl (pc + 4) lv st h Q) : X F G M rf rl pc lv (.long y :: .long x :: st) h Q := x_lcmp hc (x_if_eq hd ht (fun q => kt ((lg_cmp_eq x y).mp q)) (fun q => kf (fun z => q ((lg_cmp_eq x y).mpr z))))
theorem x_lif_ne {x y : Int64} {off : Int} {tgt : Nat} (hc : decode M.2.1 pc = .ok (.lcmp, 1)) (hd : decode M.2.1 (pc + 1) = .ok (.ifCond .ne off, 3)) (ht : ((pc + 1 : Nat) : Int) + off = (tgt : Int)) (kt : ¬ x = y → X F G M rf rl tgt lv st h Q) (kf : x = y → X F G M rf rl (pc + 4) lv st h Q) : X F G M rf rl pc lv (.long y :: .long x :: st) h Q := x_lcmp hc (x_if_ne hd ht (fun q => kt (fun z => q ((lg_cmp_eq x y).mpr z))) (fun q => kf ((lg_cmp_eq x y).mp q)))
end XP
/-- the model's object -/
abbrev MO (thr tpd tdy bks siz too frm knd num sgn flt plc : Int32) (wrd : Int64) (tld now lst pfo thk are brk ipd bst : Int32) : List Value := [.int thr, .ref 37, .ref 38, .ref 39, .int tpd, .int tdy, .int bks, .int siz, .int too, .int frm, .int knd, .int num, .int sgn, .int flt, .int plc, .long wrd, .int tld, .ref 40, .int now, .ref 41, .ref 42, .int lst, .int pfo, .int thk, .int are, .int brk, .ref 43, .ref 44, .ref 45, .ref 46, .ref 47, .ref 48, .ref 49, .int ipd, .int bst]
/-! ===== numbers that both sides reckon ===== -/
/-- the last of the first n books whose day is no later than t -/
def lastB (dy : Nat → Int32) (t : Int32) : Nat → Option Nat
  | 0 => none
  | n + 1 => if dy n ≤ t then some n else lastB dy t n
theorem lastB_lt {dy : Nat → Int32} {t : Int32} : ∀ {n k : Nat}, lastB dy t n = some k → k < n
  | 0, k, h => by simp [lastB] at h
  | n + 1, k, h => by
    unfold lastB at h
    split at h
    · cases h; omega
    · exact Nat.lt_succ_of_lt (lastB_lt h)
def nowOf (o : Option Nat) : Int32 := match o with
  | none => -1
  | some k => nI (484 * k)
theorem nowOf_none {dy : Nat → Int32} {t : Int32} {n : Nat} (hn : n ≤ 20) : nowOf (lastB dy t n) = -1 ↔ lastB dy t n = none := by
  cases h : lastB dy t n with
  | none => simp [nowOf]
  | some k =>
    have hk := lastB_lt h
    simp only [nowOf]
    constructor
    · intro q
      have := congrArg Int32.toInt q
      rw [nI_toInt (by omega)] at this
      have h1 : (-1 : Int32).toInt = -1 := rfl
      omega
    · intro q; cases q
/-- which POINT's stretch a percent lies in: of n stretches, the first whose end is not ahead of x -/
def segK (pc : Nat → Int32) (x : Int32) : Nat → Nat
  | 0 => 0
  | n + 1 => if x ≤ pc 1 then 0 else segK (fun k => pc (k + 1)) x n + 1
/-- PUSH at x on the stretch k -/
def puX (pc pu : Nat → Int32) (k : Nat) (x : Int32) : Int32 := pu k + (pu (k + 1) - pu k) * (x - pc k) / (pc (k + 1) - pc k)
/-- STORED -/
def stoF (cu : Nat → Int32) : Nat → Int64
  | 0 => 0
  | x + 1 => stoF cu x + (cu x).toInt64 + (cu (x + 1)).toInt64
/-- the least x, from x0 on and of n tries, whose STORED bears the fall -/
def sqF (sto : Nat → Int64) (w h thick area : Int64) : Nat → Nat → Int32
  | _, 0 => -2
  | x, n + 1 => if sto x * area * thick < 2 * w * (100 * h + (nI x).toInt64 * thick) then sqF sto w h thick area (x + 1) n else nI x
def blF (p : Int32) (area w : Int64) : Int32 := if p.toInt64 * area * 10 / w ≤ 2000000000 then (p.toInt64 * area * 10 / w).toInt32 else 2000000000
theorem sqF_cases (sto : Nat → Int64) (w h thick area : Int64) : ∀ (m k : Nat), sqF sto w h thick area k m = -2 ∨ ∃ x, k ≤ x ∧ x < k + m ∧ sqF sto w h thick area k m = nI x
  | 0, k => Or.inl rfl
  | m + 1, k => by
    unfold sqF
    split
    · rcases sqF_cases sto w h thick area m (k + 1) with e | ⟨x, h1, h2, e⟩
      · exact Or.inl e
      · exact Or.inr ⟨x, by omega, by omega, e⟩
    · exact Or.inr ⟨k, Nat.le_refl k, by omega, rfl⟩
/-- it HOLDS -/
def hoF (sto : Nat → Int64) (cu : Nat → Int32) (c : Nat) (thick area : Int64) (w h mark : Int32) : Bool :=
  if sqF sto w.toInt64 h.toInt64 thick area 0 c < 0 then false else decide (blF (cu (sqF sto w.toInt64 h.toInt64 thick area 0 c).toNatClampNeg) area w.toInt64 ≤ mark)
/-- a FOAM as told, at the place f of a record: np POINTS, their percents P, pushes U, keeps, price -/
def WFf (rec : Nat → Int32) (f np : Nat) (P U : Nat → Nat) (ke pr : Nat) : Prop :=
  rec f = nI np ∧ 2 ≤ np ∧ np ≤ 8 ∧ (∀ i, i < np → rec (f + 3 + i) = nI (P i)) ∧ P 0 = 0 ∧ (∀ i, i + 1 < np → P i < P (i + 1)) ∧ P (np - 1) ≤ 95 ∧ (∀ i, i < np → rec (f + 11 + i) = nI (U i)) ∧ (∀ i, i + 1 < np → U i ≤ U (i + 1)) ∧ U (np - 1) ≤ 60000 ∧ rec (f + 1) = nI ke ∧ ke ≤ 100 ∧ rec (f + 2) = nI pr ∧ pr ≤ 100
/-- the stretch of the percent x -/
def IsSeg (P : Nat → Nat) (np x k : Nat) : Prop := k + 2 ≤ np ∧ x ≤ P (k + 1) ∧ (k = 0 ∨ P k < x)
theorem mono_P {P : Nat → Nat} {np : Nat} (h : ∀ i, i + 1 < np → P i < P (i + 1)) : ∀ {a b : Nat}, a ≤ b → b < np → P a + (b - a) ≤ P b := by
  intro a b hab hb
  induction b with
  | zero => have : a = 0 := by omega
            subst this; simp
  | succ b ih =>
    by_cases e : a = b + 1
    · subst e; simp
    · have := ih (by omega) (by omega)
      have := h b (by omega)
      omega
theorem IsSeg.one {P : Nat → Nat} {np x a b : Nat} (h : ∀ i, i + 1 < np → P i < P (i + 1)) (ha : IsSeg P np x a) (hb : IsSeg P np x b) : a = b := by
  obtain ⟨a1, a2, a3⟩ := ha
  obtain ⟨b1, b2, b3⟩ := hb
  rcases Nat.lt_trichotomy a b with q | q | q
  · have := mono_P h (a := a + 1) (b := b) (by omega) (by omega)
    omega
  · exact q
  · have := mono_P h (a := b + 1) (b := a) (by omega) (by omega)
    omega
/-- PUSH of new foam at x, by the record -/
def puR (rec : Nat → Int32) (f k : Nat) (x : Nat) : Int32 := puX (fun i => rec (f + 3 + i)) (fun i => rec (f + 11 + i)) k (nI x)
/-- a row of pushes is the foam's, worn to kept -/
def IsCu (rec : Nat → Int32) (f np : Nat) (P : Nat → Nat) (kept : Int32) (c : Nat) (cu : Nat → Int32) : Prop := ∀ x, x < c → ∃ k, IsSeg P np x k ∧ cu x = puR rec f k x * kept / 100
theorem stoF_upd {cu : Nat → Int32} {x : Nat} {v : Int32} : ∀ {j : Nat}, j < x → stoF (upd cu x v) j = stoF cu j
  | 0, _ => rfl
  | j + 1, h => by
    unfold stoF
    rw [stoF_upd (show j < x by omega), pk_un (show j ≠ x by omega), pk_un (show j + 1 ≠ x by omega)]
theorem stoF_cong {cu cv : Nat → Int32} : ∀ {j : Nat}, (∀ i, i ≤ j → cu i = cv i) → stoF cu j = stoF cv j
  | 0, _ => rfl
  | j + 1, h => by
    unfold stoF
    rw [stoF_cong (fun i hi => h i (by omega)), h j (by omega), h (j + 1) (by omega)]
theorem nI_sub_ne0 {a b : Nat} (h : b < a) (ha : a < 2 ^ 30) : ¬ nI a - nI b = 0 := by
  rw [pk_sub (by omega)]
  exact nI_ne0 (by omega) (by omega)

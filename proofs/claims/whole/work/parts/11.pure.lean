section XP
variable {Ω : Type} {F : FT Ω} {G : GT} {M : MT} {rf rl pc : Nat} {lv : List (Nat × Value)} {st : List Value} {h : List PE} {Q : Ω → Prop}
/-- fewer locals, in any order -/
theorem x_perm {lv2 : List (Nat × Value)} (ks : List Nat) (hl : lv_pick lv ks = lv2) (k : X F G M rf rl pc lv2 st h Q) : X F G M rf rl pc lv st h Q := by
  refine X.stepL (fun p e R s m args below meth c H locs a n ls Z C hv w => w ls (lv_sub hv ks ?_)) k
  subst hl
  unfold lv_pick g_l
  rw [List.map_filterMap]
  congr 1
  funext i
  rw [List.getElem?_map]
theorem x_lif_lt {x y : Int64} {off : Int} {tgt : Nat} (hc : decode M.2.1 pc = .ok (.lcmp, 1)) (hd : decode M.2.1 (pc + 1) = .ok (.ifCond .lt off, 3)) (ht : ((pc + 1 : Nat) : Int) + off = (tgt : Int)) (kt : x < y → X F G M rf rl tgt lv st h Q) (kf : ¬ x < y → X F G M rf rl (pc + 4) lv st h Q) : X F G M rf rl pc lv (.long y :: .long x :: st) h Q := x_lcmp hc (x_if_lt hd ht (fun q => kt ((lg_cmp_lt x y).mp q)) (fun q => kf (fun z => q ((lg_cmp_lt x y).mpr z))))
theorem x_lif_ge {x y : Int64} {off : Int} {tgt : Nat} (hc : decode M.2.1 pc = .ok (.lcmp, 1)) (hd : decode M.2.1 (pc + 1) = .ok (.ifCond .ge off, 3)) (ht : ((pc + 1 : Nat) : Int) + off = (tgt : Int)) (kt : y ≤ x → X F G M rf rl tgt lv st h Q) (kf : ¬ y ≤ x → X F G M rf rl (pc + 4) lv st h Q) : X F G M rf rl pc lv (.long y :: .long x :: st) h Q := x_lcmp hc (x_if_ge hd ht (fun q => kt ((lg_cmp_ge x y).mp q)) (fun q => kf (fun z => q ((lg_cmp_ge x y).mpr z))))
theorem x_lif_gt {x y : Int64} {off : Int} {tgt : Nat} (hc : decode M.2.1 pc = .ok (.lcmp, 1)) (hd : decode M.2.1 (pc + 1) = .ok (.ifCond .gt off, 3)) (ht : ((pc + 1 : Nat) : Int) + off = (tgt : Int)) (kt : y < x → X F G M rf rl tgt lv st h Q) (kf : ¬ y < x → X F G M rf rl (pc + 4) lv st h Q) : X F G M rf rl pc lv (.long y :: .long x :: st) h Q := x_lcmp hc (x_if_gt hd ht (fun q => kt ((lg_cmp_gt x y).mp q)) (fun q => kf (fun z => q ((lg_cmp_gt x y).mpr z))))
theorem x_lif_le {x y : Int64} {off : Int} {tgt : Nat} (hc : decode M.2.1 pc = .ok (.lcmp, 1)) (hd : decode M.2.1 (pc + 1) = .ok (.ifCond .le off, 3)) (ht : ((pc + 1 : Nat) : Int) + off = (tgt : Int)) (kt : x ≤ y → X F G M rf rl tgt lv st h Q) (kf : ¬ x ≤ y → X F G M rf rl (pc + 4) lv st h Q) : X F G M rf rl pc lv (.long y :: .long x :: st) h Q := x_lcmp hc (x_if_le hd ht (fun q => kt ((lg_cmp_le x y).mp q)) (fun q => kf (fun z => q ((lg_cmp_le x y).mpr z))))
theorem x_lif_eq {x y : Int64} {off : Int} {tgt : Nat} (hc : decode M.2.1 pc = .ok (.lcmp, 1)) (hd : decode M.2.1 (pc + 1) = .ok (.ifCond .eq off, 3)) (ht : ((pc + 1 : Nat) : Int) + off = (tgt : Int)) (kt : x = y → X F G M rf rl tgt lv st h Q) (kf : ¬ x = y → X F G M rf rl (pc + 4) lv st h Q) : X F G M rf rl pc lv (.long y :: .long x :: st) h Q := x_lcmp hc (x_if_eq hd ht (fun q => kt ((lg_cmp_eq x y).mp q)) (fun q => kf (fun z => q ((lg_cmp_eq x y).mpr z))))
theorem x_lif_ne {x y : Int64} {off : Int} {tgt : Nat} (hc : decode M.2.1 pc = .ok (.lcmp, 1)) (hd : decode M.2.1 (pc + 1) = .ok (.ifCond .ne off, 3)) (ht : ((pc + 1 : Nat) : Int) + off = (tgt : Int)) (kt : ¬ x = y → X F G M rf rl tgt lv st h Q) (kf : x = y → X F G M rf rl (pc + 4) lv st h Q) : X F G M rf rl pc lv (.long y :: .long x :: st) h Q := x_lcmp hc (x_if_ne hd ht (fun q => kt (fun z => q ((lg_cmp_eq x y).mpr z))) (fun q => kf ((lg_cmp_eq x y).mp q)))
end XP
/-- the model's object -/
abbrev MO (thr tpd tdy bks siz too frm knd num sgn flt plc : Int32) (wrd : Int64) (tld now lst pfo thk are brk ipd bst : Int32) : List Value := [.int thr, .ref 37, .ref 38, .ref 39, .int tpd, .int tdy, .int bks, .int siz, .int too, .int frm, .int knd, .int num, .int sgn, .int flt, .int plc, .long wrd, .int tld, .ref 40, .int now, .ref 41, .ref 42, .int lst, .int pfo, .int thk, .int are, .int brk, .ref 43, .ref 44, .ref 45, .ref 46, .ref 47, .ref 48, .ref 49, .int ipd, .int bst]
/-! ===== numbers that both sides reckon ===== -/
/-- the last of the first n books whose day is no later than t -/
def lastB (dy : Nat → Int32) (t : Int32) : Nat → Option Nat
  | 0 => none
  | n + 1 => if dy n ≤ t then some n else lastB dy t n
theorem lastB_lt {dy : Nat → Int32} {t : Int32} : ∀ {n k : Nat}, lastB dy t n = some k → k < n
  | 0, k, h => by simp [lastB] at h
  | n + 1, k, h => by
    unfold lastB at h
    split at h
    · cases h; omega
    · exact Nat.lt_succ_of_lt (lastB_lt h)
def nowOf (o : Option Nat) : Int32 := match o with
  | none => -1
  | some k => nI (484 * k)
theorem nowOf_none {dy : Nat → Int32} {t : Int32} {n : Nat} (hn : n ≤ 20) : nowOf (lastB dy t n) = -1 ↔ lastB dy t n = none := by
  cases h : lastB dy t n with
  | none => simp [nowOf]
  | some k =>
    have hk := lastB_lt h
    simp only [nowOf]
    constructor
    · intro q
      have := congrArg Int32.toInt q
      rw [nI_toInt (by omega)] at this
      have h1 : (-1 : Int32).toInt = -1 := rfl
      omega
    · intro q; cases q
/-- which POINT's stretch a percent lies in: of n stretches, the first whose end is not ahead of x -/
def segK (pc : Nat → Int32) (x : Int32) : Nat → Nat
  | 0 => 0
  | n + 1 => if x ≤ pc 1 then 0 else segK (fun k => pc (k + 1)) x n + 1
/-- PUSH at x on the stretch k -/
def puX (pc pu : Nat → Int32) (k : Nat) (x : Int32) : Int32 := pu k + (pu (k + 1) - pu k) * (x - pc k) / (pc (k + 1) - pc k)
/-- STORED -/
def stoF (cu : Nat → Int32) : Nat → Int64
  | 0 => 0
  | x + 1 => stoF cu x + (cu x).toInt64 + (cu (x + 1)).toInt64
/-- the least x, from x0 on and of n tries, whose STORED bears the fall -/
def sqF (sto : Nat → Int64) (w h thick area : Int64) : Nat → Nat → Int32
  | _, 0 => -2
  | x, n + 1 => if sto x * area * thick < 2 * w * (100 * h + (nI x).toInt64 * thick) then sqF sto w h thick area (x + 1) n else nI x
def blF (p : Int32) (area w : Int64) : Int32 := if p.toInt64 * area * 10 / w ≤ 2000000000 then (p.toInt64 * area * 10 / w).toInt32 else 2000000000

/-! ===== boxes ===== -/
/-- the size s of THING k, with room on both sides, goes into the room r of BOX b -/
def FTs (rec : Nat → Int32) (mg : Int32) (k b s r : Nat) : Bool := decide (rec (164 + 24 * k + 1 + s) + 2 * mg ≤ rec (356 + 6 * b + r))
def T3 (rec : Nat → Int32) (mg : Int32) (k b i j l : Nat) : Bool := FTs rec mg k b 0 i && FTs rec mg k b 1 j && FTs rec mg k b 2 l
def GI (rec : Nat → Int32) (mg : Int32) (k b : Nat) : Bool := T3 rec mg k b 0 1 2 || T3 rec mg k b 0 2 1 || T3 rec mg k b 1 0 2 || T3 rec mg k b 1 2 0 || T3 rec mg k b 2 0 1 || T3 rec mg k b 2 1 0
/-- the cheapest of those BOXES that do -/
def chF (ok : Nat → Bool) (pr : Nat → Int32) : Nat → Nat → Int32 → Int32
  | 0, _, b => b
  | m + 1, j, b => chF ok pr m (j + 1) (if ok j = true ∧ (b = -1 ∨ pr j < b) then pr j else b)
theorem chF_cong {ok ok2 : Nat → Bool} {pr pr2 : Nat → Int32} : ∀ (m j : Nat) (b : Int32), (∀ i, j ≤ i → i < j + m → ok i = ok2 i ∧ pr i = pr2 i) → chF ok pr m j b = chF ok2 pr2 m j b
  | 0, _, _, _ => rfl
  | m + 1, j, b, h => by
    unfold chF
    rw [(h j (by omega) (by omega)).1, (h j (by omega) (by omega)).2]
    exact chF_cong m (j + 1) _ (fun i h1 h2 => h i (by omega) (by omega))
def coF (ch : Nat → Int32) : Nat → Nat → Int32 → Int32
  | 0, _, s => s
  | m + 1, i, s => if ch i = -1 then -1 else coF ch m (i + 1) (s + ch i)
theorem coF_cong {ch ch2 : Nat → Int32} : ∀ (m j : Nat) (b : Int32), (∀ i, j ≤ i → i < j + m → ch i = ch2 i) → coF ch m j b = coF ch2 m j b
  | 0, _, _, _ => rfl
  | m + 1, j, b, h => by
    unfold coF
    rw [h j (by omega) (by omega), coF_cong m (j + 1) _ (fun i h1 h2 => h i (by omega) (by omega))]
def popN : Nat → Nat → Nat
  | 0, _ => 0
  | n + 1, q => popN n q + if Nat.testBit q n = true then 1 else 0
abbrev boC (cost : Nat → Int32) (nb : Nat) (most : Int32) (q : Nat) (s : Int32 × Nat) : Prop := ¬ most < nI (popN nb q) ∧ ¬ cost q = -1 ∧ (s.1 = -1 ∨ cost q < s.1)
def boF (cost : Nat → Int32) (nb : Nat) (most : Int32) : Nat → Nat → Int32 × Nat → Int32 × Nat
  | 0, _, s => s
  | m + 1, q, s => boF cost nb most m (q + 1) (if boC cost nb most q s then (cost q, q) else s)
theorem boF_cong {c c2 : Nat → Int32} {nb : Nat} {most : Int32} : ∀ (m j : Nat) (b : Int32 × Nat), (∀ i, j ≤ i → i < j + m → c i = c2 i) → boF c nb most m j b = boF c2 nb most m j b
  | 0, _, _, _ => rfl
  | m + 1, j, b, h => by
    unfold boF boC
    rw [h j (by omega) (by omega), boF_cong m (j + 1) _ (fun i h1 h2 => h i (by omega) (by omega))]
/-- the cost of THING i among the BOXES of the set q -/
def bxC (rec : Nat → Int32) (mg : Int32) (nb q i : Nat) : Int32 := chF (fun j => Nat.testBit q j && GI rec mg i j) (fun j => rec (356 + 6 * j + 3)) nb 0 (-1)
def bxS (rec : Nat → Int32) (mg : Int32) (nt nb : Nat) (q : Nat) : Int32 := coF (bxC rec mg nb q) nt 0 0
def bxR (rec : Nat → Int32) (mg most : Int32) (nt nb : Nat) : Int32 × Nat := boF (bxS rec mg nt nb) nb most (2 ^ nb - 1) 1 (-1, 0)
abbrev bBx (c : Nat × Nat × Nat × Nat) (mg most : Int32) : Prop := (mg < 0 ∨ 2000 < mg) ∨ (most < 1 ∨ 8 < most) ∨ c.2.1 = 0
def spBx (rec : Nat → Int32) (c : Nat × Nat × Nat × Nat) (mg most : Int32) : Int32 := if bBx c mg most then -2 else (bxR rec mg most c.2.1 c.2.2.1).1
def spBs (rec : Nat → Int32) (c : Nat × Nat × Nat × Nat) (mg most bs : Int32) : Int32 := if bBx c mg most ∨ (bxR rec mg most c.2.1 c.2.2.1).1 = -1 then bs else nI (bxR rec mg most c.2.1 c.2.2.1).2
/-- the set of the first BOXES into which it goes -/
def fmN (g : Nat → Bool) : Nat → Nat
  | 0 => 0
  | j + 1 => if g j = true then 2 ^ j + fmN g j else fmN g j
theorem fmN_lt {g : Nat → Bool} : ∀ j, fmN g j < 2 ^ j
  | 0 => Nat.one_pos
  | j + 1 => by
    have := fmN_lt (g := g) j
    unfold fmN
    rw [Nat.pow_succ]
    split <;> omega
theorem fmN_bit {g : Nat → Bool} : ∀ (j i : Nat), i < j → Nat.testBit (fmN g j) i = g i
  | 0, i, h => absurd h (by omega)
  | j + 1, i, h => by
    have hl := fmN_lt (g := g) j
    unfold fmN
    by_cases e : i = j
    · subst e
      by_cases q : g i = true
      · rw [if_pos q, Nat.testBit_two_pow_add_eq, Nat.testBit_lt_two_pow hl, q]; rfl
      · rw [if_neg q, Nat.testBit_lt_two_pow hl]; exact (Bool.eq_false_iff.mpr q).symm
    · have h2 : i < j := by omega
      by_cases q : g j = true
      · rw [if_pos q, Nat.testBit_two_pow_add_gt h2]; exact fmN_bit j i h2
      · rw [if_neg q]; exact fmN_bit j i h2
theorem nI_and2 (a b : Nat) : nI a &&& nI b = nI (a &&& b) := by
  apply Int32.toBitVec_inj.mp
  rw [Int32.toBitVec_and]
  apply BitVec.eq_of_toNat_eq
  simp [nI]
set_option maxRecDepth 100000 in
theorem bit_at : ∀ s, s < 256 → ∀ j, j < 8 → ((nI s >>> (nI j &&& 31) &&& 1) = 1 ↔ Nat.testBit s j = true) := by decide
set_option maxRecDepth 100000 in
theorem bit_no : ∀ s, s < 256 → ∀ j, j < 8 → (nI s >>> (nI j &&& 31) &&& 1) = nI (if Nat.testBit s j = true then 1 else 0) := by decide
set_option maxRecDepth 100000 in
theorem bit_or : ∀ j, j < 8 → ∀ a, a < 128 → a < 2 ^ j → (nI a ||| (1 <<< (nI j &&& 31))) = nI (2 ^ j + a) := by decide
set_option maxRecDepth 100000 in
theorem bit_sh : ∀ j, j ≤ 8 → (1 : Int32) <<< (nI j &&& 31) = nI (2 ^ j) := by decide
theorem two_le : ∀ j, j ≤ 8 → 1 ≤ 2 ^ j ∧ 2 ^ j ≤ 256 := by decide
theorem popN_le : ∀ n q, popN n q ≤ n
  | 0, _ => Nat.le_refl _
  | n + 1, q => by
    have := popN_le n q
    unfold popN
    split <;> omega

set_option maxRecDepth 100000 in
set_option maxHeartbeats 4000000 in
theorem c_fitsC {G : GT} {h : List PE} {ta s1 s2 s3 s4 i : Nat} {wt mk mg room : Int32} {z : Nat → Int32} (hta : 3 ≤ ta) (hs1 : 3 ≤ s1) (hi : i < 3) (fta : h[ta]? = some (cO 9 [.ref s1, .ref s2, .ref s3, .ref s4, .int wt, .int mk])) (fs1 : h[s1]? = some (cI 3 z)) : CT G mX9_fits 0 0 [.ref ta, .int (nI i), .int mg, .int room] h (fun o => o = (some (.int (if room < z i + 2 * mg then 0 else 1)), h)) := by
  show X (NF G) G mX9_fits 0 0 0 [(0, .ref ta), (1, .int (nI i)), (2, .int mg), (3, .int room)] [] h _
  refine x_aload_n dX9_fits_0 0 rfl ?_
  refine x_get (v := .ref s1) dX9_fits_1 fX9_9 fta hta rfl ?_
  refine x_iload_n dX9_fits_4 1 rfl ?_
  refine x_ialdN (i := i) dX9_fits_5 fs1 hs1 (by omega) (by decide) ?_
  refine x_iconst (v := 2) dX9_fits_6 (by decide) ?_
  refine x_iload_n dX9_fits_7 2 rfl ?_
  refine x_imul dX9_fits_8 ?_
  refine x_iadd dX9_fits_9 ?_
  refine x_iload_n dX9_fits_10 3 rfl ?_
  refine x_icmp_gt (tgt := 18) dX9_fits_11 (by decide) (fun c_11 => ?_) (fun c_11 => ?_)
  · refine x_iconst (v := 0) dX9_fits_18 (by decide) ?_
    exact x_zret dX9_fits_19 rfl rfl (by rw [if_pos c_11])
  · refine x_iconst (v := 1) dX9_fits_14 (by decide) ?_
    refine x_goto (tgt := 19) dX9_fits_15 (by decide) ?_
    exact x_zret dX9_fits_19 rfl rfl (by rw [if_neg c_11])

set_option maxRecDepth 100000 in
set_option maxHeartbeats 4000000 in
theorem l_goes {G : GT} {h : List PE} {rec : Nat → Int32} {mg : Int32} {k b ta ba : Nat} {fq : Nat → Nat} (hT : ThingAt h rec (164 + 24 * k) fq ta) (hX : BoxAt h rec (356 + 6 * b) ba) {Q : OT → Prop} {i j : Nat} (hij : i < 3 ∧ j < 3 ∧ i ≠ j) (KN : T3 rec mg k b i j (3 - i - j) = false → X (NF G) G mX9_goesInto 1 23 75 [(4, .int (nI j)), (3, .int (nI i)), (0, .ref ta), (1, .ref ba), (2, .int mg)] [] h Q) (KT : T3 rec mg k b i j (3 - i - j) = true → Q (some (.int 1), h)) : X (NF G) G mX9_goesInto 1 23 22 [(4, .int (nI j)), (3, .int (nI i)), (0, .ref ta), (1, .ref ba), (2, .int mg)] [] h Q := by
  obtain ⟨hta, s1, s2, s3, s4, w1, w2, w3, w4, hs1, -, -, -, fta, fs1, -, -, -, es1, -⟩ := id hT
  obtain ⟨hba, p, zz, hp, fba, fp, ezz⟩ := id hX
  refine x_aload_n dX9_goesInto_22 2 rfl ?_
  refine x_iconst (v := 0) dX9_goesInto_23 (by decide) ?_
  refine x_iload_n dX9_goesInto_24 4 rfl ?_
  refine x_aload_n dX9_goesInto_25 3 rfl ?_
  refine x_get (v := .ref p) dX9_goesInto_26 fX9_38 fba (by omega) rfl ?_
  refine x_iload_n dX9_goesInto_29 1 rfl ?_
  refine x_ialdN (i := i) dX9_goesInto_30 fp (by omega) (by omega) (by decide) ?_
  refine x_callV (rf' := 0) (rl' := 0) [.int 0, .int mg, .int (zz i)] [] dX9_goesInto_31 vX9_43 Y_X9_fits fta (by omega) rfl rfl (Nat.le_of_ble_eq_true rfl) (Nat.le_of_ble_eq_true rfl) (by decide) (by decide) (c_fitsC (i := 0) (by omega) (by omega) (by decide) fta fs1) (fun _ _ e101 => ?_)
  cases e101
  rw [es1 0 (by decide), ezz i (by omega)]
  by_cases u0 : rec (356 + 6 * b + i) < rec (164 + 24 * k + 1 + 0) + 2 * mg
  · rw [if_pos u0]
    have v0 : FTs rec mg k b 0 i = false := decide_eq_false (Int32.not_le.mpr u0)
    refine x_if_eq (tgt := 75) dX9_goesInto_34 (by decide) (fun c_34 => ?_) (fun c_34 => absurd (by decide) c_34)
    refine x_perm [0, 1, 2, 3, 4] rfl ?_
    exact KN (by unfold T3; simp [v0])
  · rw [if_neg u0]
    have v0 : FTs rec mg k b 0 i = true := decide_eq_true (Int32.not_lt.mp u0)
    refine x_if_eq (tgt := 75) dX9_goesInto_34 (by decide) (fun c_34 => absurd c_34 (by decide)) (fun c_34 => ?_)
    refine x_aload_n dX9_goesInto_37 2 rfl ?_
    refine x_iconst (v := 1) dX9_goesInto_38 (by decide) ?_
    refine x_iload_n dX9_goesInto_39 4 rfl ?_
    refine x_aload_n dX9_goesInto_40 3 rfl ?_
    refine x_get (v := .ref p) dX9_goesInto_41 fX9_38 fba (by omega) rfl ?_
    refine x_iload dX9_goesInto_44 0 rfl ?_
    refine x_ialdN (i := j) dX9_goesInto_46 fp (by omega) (by omega) (by decide) ?_
    refine x_callV (rf' := 0) (rl' := 0) [.int 1, .int mg, .int (zz j)] [] dX9_goesInto_47 vX9_43 Y_X9_fits fta (by omega) rfl rfl (Nat.le_of_ble_eq_true rfl) (Nat.le_of_ble_eq_true rfl) (by decide) (by decide) (c_fitsC (i := 1) (by omega) (by omega) (by decide) fta fs1) (fun _ _ e102 => ?_)
    cases e102
    rw [es1 1 (by decide), ezz j (by omega)]
    by_cases u1 : rec (356 + 6 * b + j) < rec (164 + 24 * k + 1 + 1) + 2 * mg
    · rw [if_pos u1]
      have v1 : FTs rec mg k b 1 j = false := decide_eq_false (Int32.not_le.mpr u1)
      refine x_if_eq (tgt := 75) dX9_goesInto_50 (by decide) (fun c_50 => ?_) (fun c_50 => absurd (by decide) c_50)
      refine x_perm [0, 1, 2, 3, 4] rfl ?_
      exact KN (by unfold T3; simp [v0, v1])
    · rw [if_neg u1]
      have v1 : FTs rec mg k b 1 j = true := decide_eq_true (Int32.not_lt.mp u1)
      refine x_if_eq (tgt := 75) dX9_goesInto_50 (by decide) (fun c_50 => absurd c_50 (by decide)) (fun c_50 => ?_)
      refine x_aload_n dX9_goesInto_53 2 rfl ?_
      refine x_iconst (v := 2) dX9_goesInto_54 (by decide) ?_
      refine x_iload_n dX9_goesInto_55 4 rfl ?_
      refine x_aload_n dX9_goesInto_56 3 rfl ?_
      refine x_get (v := .ref p) dX9_goesInto_57 fX9_38 fba (by omega) rfl ?_
      refine x_iconst (v := 3) dX9_goesInto_60 (by decide) ?_
      refine x_iload_n dX9_goesInto_61 1 rfl ?_
      refine x_isubN (a := 3) (b := i) (by omega) dX9_goesInto_62 ?_
      refine x_iload dX9_goesInto_63 0 rfl ?_
      refine x_isubN (a := (3 - i)) (b := j) (by omega) dX9_goesInto_65 ?_
      refine x_ialdN (i := ((3 - i) - j)) dX9_goesInto_66 fp (by omega) (by omega) (by decide) ?_
      refine x_callV (rf' := 0) (rl' := 0) [.int 2, .int mg, .int (zz (((3 - i) - j)))] [] dX9_goesInto_67 vX9_43 Y_X9_fits fta (by omega) rfl rfl (Nat.le_of_ble_eq_true rfl) (Nat.le_of_ble_eq_true rfl) (by decide) (by decide) (c_fitsC (i := 2) (by omega) (by omega) (by decide) fta fs1) (fun _ _ e103 => ?_)
      cases e103
      rw [es1 2 (by decide), ezz (3 - i - j) (by omega)]
      by_cases u2 : rec (356 + 6 * b + (3 - i - j)) < rec (164 + 24 * k + 1 + 2) + 2 * mg
      · rw [if_pos u2]
        have v2 : FTs rec mg k b 2 (3 - i - j) = false := decide_eq_false (Int32.not_le.mpr u2)
        refine x_if_eq (tgt := 75) dX9_goesInto_70 (by decide) (fun c_70 => ?_) (fun c_70 => absurd (by decide) c_70)
        refine x_perm [0, 1, 2, 3, 4] rfl ?_
        exact KN (by unfold T3; simp [v0, v1, v2])
      · rw [if_neg u2]
        have v2 : FTs rec mg k b 2 (3 - i - j) = true := decide_eq_true (Int32.not_lt.mp u2)
        refine x_if_eq (tgt := 75) dX9_goesInto_70 (by decide) (fun c_70 => absurd c_70 (by decide)) (fun c_70 => ?_)
        refine x_iconst (v := 1) dX9_goesInto_73 (by decide) ?_
        exact x_zret dX9_goesInto_74 rfl rfl (KT (by unfold T3; simp [v0, v1, v2]))

set_option maxRecDepth 100000 in
set_option maxHeartbeats 4000000 in
theorem c_goesIntoC {G : GT} {h : List PE} {rec : Nat → Int32} {mg : Int32} {k b ta ba : Nat} {fq : Nat → Nat} (hT : ThingAt h rec (164 + 24 * k) fq ta) (hX : BoxAt h rec (356 + 6 * b) ba)  : CT G mX9_goesInto 1 23 [.ref ta, .ref ba, .int mg] h (fun o => o = (some (.int (if GI rec mg k b = true then 1 else 0)), h)) := by
  obtain ⟨hta, s1, s2, s3, s4, w1, w2, w3, w4, hs1, -, -, -, fta, fs1, -, -, -, es1, -⟩ := id hT
  obtain ⟨hba, p, zz, hp, fba, fp, ezz⟩ := id hX
  show X (NF G) G mX9_goesInto 1 23 0 [(0, .ref ta), (1, .ref ba), (2, .int mg)] [] h _
  refine x_iconst (v := 0) dX9_goesInto_0 (by decide) ?_
  refine x_istore_n (lv2 := [(3, .int 0), (0, .ref ta), (1, .ref ba), (2, .int mg)]) dX9_goesInto_1 (by decide) rfl ?_
  refine x_iload_n dX9_goesInto_2 0 rfl ?_
  refine x_iconst (v := 3) dX9_goesInto_3 (by decide) ?_
  refine x_icmp_ge (tgt := 87) dX9_goesInto_4 (by decide) (fun c_4 => absurd c_4 (by decide)) (fun c_4 => ?_)
  refine x_iconst (v := 0) dX9_goesInto_7 (by decide) ?_
  refine x_istore (lv2 := [(4, .int 0), (3, .int 0), (0, .ref ta), (1, .ref ba), (2, .int mg)]) dX9_goesInto_8 (by decide) rfl ?_
  refine x_iload dX9_goesInto_10 0 rfl ?_
  refine x_iconst (v := 3) dX9_goesInto_12 (by decide) ?_
  refine x_icmp_ge (tgt := 81) dX9_goesInto_13 (by decide) (fun c_13 => absurd c_13 (by decide)) (fun c_13 => ?_)
  refine x_iload_n dX9_goesInto_16 1 rfl ?_
  refine x_iload dX9_goesInto_17 0 rfl ?_
  refine x_icmp_eq (tgt := 75) dX9_goesInto_19 (by decide) (fun c_19 => ?_) (fun c_19 => absurd (by decide) c_19)
  refine x_iinc (lv2 := [(4, .int 1), (3, .int 0), (0, .ref ta), (1, .ref ba), (2, .int mg)]) dX9_goesInto_75 0 rfl (by decide) (by decide) rfl ?_
  refine x_goto (tgt := 10) dX9_goesInto_78 (by decide) ?_
  refine x_iload dX9_goesInto_10 0 rfl ?_
  refine x_iconst (v := 3) dX9_goesInto_12 (by decide) ?_
  refine x_icmp_ge (tgt := 81) dX9_goesInto_13 (by decide) (fun c_13 => absurd c_13 (by decide)) (fun c_13 => ?_)
  refine x_iload_n dX9_goesInto_16 1 rfl ?_
  refine x_iload dX9_goesInto_17 0 rfl ?_
  refine x_icmp_eq (tgt := 75) dX9_goesInto_19 (by decide) (fun c_19 => absurd c_19 (by decide)) (fun c_19 => ?_)
  refine x_perm (lv2 := [(4, .int (nI 1)), (3, .int (nI 0)), (0, .ref ta), (1, .ref ba), (2, .int mg)]) [0, 1, 2, 3, 4] rfl ?_
  refine l_goes hT hX (i := 0) (j := 1) (by decide) (fun t01 => ?_) (fun t01 => ?_)
  · have t01 : T3 rec mg k b 0 1 2 = false := t01
    change X _ _ _ _ _ _ [(4, .int 1), (3, .int 0), (0, .ref ta), (1, .ref ba), (2, .int mg)] _ _ _
    refine x_iinc (lv2 := [(4, .int 2), (3, .int 0), (0, .ref ta), (1, .ref ba), (2, .int mg)]) dX9_goesInto_75 0 rfl (by decide) (by decide) rfl ?_
    refine x_goto (tgt := 10) dX9_goesInto_78 (by decide) ?_
    refine x_iload dX9_goesInto_10 0 rfl ?_
    refine x_iconst (v := 3) dX9_goesInto_12 (by decide) ?_
    refine x_icmp_ge (tgt := 81) dX9_goesInto_13 (by decide) (fun c_13 => absurd c_13 (by decide)) (fun c_13 => ?_)
    refine x_iload_n dX9_goesInto_16 1 rfl ?_
    refine x_iload dX9_goesInto_17 0 rfl ?_
    refine x_icmp_eq (tgt := 75) dX9_goesInto_19 (by decide) (fun c_19 => absurd c_19 (by decide)) (fun c_19 => ?_)
    refine x_perm (lv2 := [(4, .int (nI 2)), (3, .int (nI 0)), (0, .ref ta), (1, .ref ba), (2, .int mg)]) [0, 1, 2, 3, 4] rfl ?_
    refine l_goes hT hX (i := 0) (j := 2) (by decide) (fun t02 => ?_) (fun t02 => ?_)
    · have t02 : T3 rec mg k b 0 2 1 = false := t02
      change X _ _ _ _ _ _ [(4, .int 2), (3, .int 0), (0, .ref ta), (1, .ref ba), (2, .int mg)] _ _ _
      refine x_iinc (lv2 := [(4, .int 3), (3, .int 0), (0, .ref ta), (1, .ref ba), (2, .int mg)]) dX9_goesInto_75 0 rfl (by decide) (by decide) rfl ?_
      refine x_goto (tgt := 10) dX9_goesInto_78 (by decide) ?_
      refine x_iload dX9_goesInto_10 0 rfl ?_
      refine x_iconst (v := 3) dX9_goesInto_12 (by decide) ?_
      refine x_icmp_ge (tgt := 81) dX9_goesInto_13 (by decide) (fun c_13 => ?_) (fun c_13 => absurd (by decide) c_13)
      refine x_iinc (lv2 := [(3, .int 1), (4, .int 3), (0, .ref ta), (1, .ref ba), (2, .int mg)]) dX9_goesInto_81 1 rfl (by decide) (by decide) rfl ?_
      refine x_goto (tgt := 2) dX9_goesInto_84 (by decide) ?_
      refine x_iload_n dX9_goesInto_2 0 rfl ?_
      refine x_iconst (v := 3) dX9_goesInto_3 (by decide) ?_
      refine x_icmp_ge (tgt := 87) dX9_goesInto_4 (by decide) (fun c_4 => absurd c_4 (by decide)) (fun c_4 => ?_)
      refine x_iconst (v := 0) dX9_goesInto_7 (by decide) ?_
      refine x_istore (lv2 := [(4, .int 0), (3, .int 1), (0, .ref ta), (1, .ref ba), (2, .int mg)]) dX9_goesInto_8 (by decide) rfl ?_
      refine x_iload dX9_goesInto_10 0 rfl ?_
      refine x_iconst (v := 3) dX9_goesInto_12 (by decide) ?_
      refine x_icmp_ge (tgt := 81) dX9_goesInto_13 (by decide) (fun c_13 => absurd c_13 (by decide)) (fun c_13 => ?_)
      refine x_iload_n dX9_goesInto_16 1 rfl ?_
      refine x_iload dX9_goesInto_17 0 rfl ?_
      refine x_icmp_eq (tgt := 75) dX9_goesInto_19 (by decide) (fun c_19 => absurd c_19 (by decide)) (fun c_19 => ?_)
      refine x_perm (lv2 := [(4, .int (nI 0)), (3, .int (nI 1)), (0, .ref ta), (1, .ref ba), (2, .int mg)]) [0, 1, 2, 3, 4] rfl ?_
      refine l_goes hT hX (i := 1) (j := 0) (by decide) (fun t10 => ?_) (fun t10 => ?_)
      · have t10 : T3 rec mg k b 1 0 2 = false := t10
        change X _ _ _ _ _ _ [(4, .int 0), (3, .int 1), (0, .ref ta), (1, .ref ba), (2, .int mg)] _ _ _
        refine x_iinc (lv2 := [(4, .int 1), (3, .int 1), (0, .ref ta), (1, .ref ba), (2, .int mg)]) dX9_goesInto_75 0 rfl (by decide) (by decide) rfl ?_
        refine x_goto (tgt := 10) dX9_goesInto_78 (by decide) ?_
        refine x_iload dX9_goesInto_10 0 rfl ?_
        refine x_iconst (v := 3) dX9_goesInto_12 (by decide) ?_
        refine x_icmp_ge (tgt := 81) dX9_goesInto_13 (by decide) (fun c_13 => absurd c_13 (by decide)) (fun c_13 => ?_)
        refine x_iload_n dX9_goesInto_16 1 rfl ?_
        refine x_iload dX9_goesInto_17 0 rfl ?_
        refine x_icmp_eq (tgt := 75) dX9_goesInto_19 (by decide) (fun c_19 => ?_) (fun c_19 => absurd (by decide) c_19)
        refine x_iinc (lv2 := [(4, .int 2), (3, .int 1), (0, .ref ta), (1, .ref ba), (2, .int mg)]) dX9_goesInto_75 0 rfl (by decide) (by decide) rfl ?_
        refine x_goto (tgt := 10) dX9_goesInto_78 (by decide) ?_
        refine x_iload dX9_goesInto_10 0 rfl ?_
        refine x_iconst (v := 3) dX9_goesInto_12 (by decide) ?_
        refine x_icmp_ge (tgt := 81) dX9_goesInto_13 (by decide) (fun c_13 => absurd c_13 (by decide)) (fun c_13 => ?_)
        refine x_iload_n dX9_goesInto_16 1 rfl ?_
        refine x_iload dX9_goesInto_17 0 rfl ?_
        refine x_icmp_eq (tgt := 75) dX9_goesInto_19 (by decide) (fun c_19 => absurd c_19 (by decide)) (fun c_19 => ?_)
        refine x_perm (lv2 := [(4, .int (nI 2)), (3, .int (nI 1)), (0, .ref ta), (1, .ref ba), (2, .int mg)]) [0, 1, 2, 3, 4] rfl ?_
        refine l_goes hT hX (i := 1) (j := 2) (by decide) (fun t12 => ?_) (fun t12 => ?_)
        · have t12 : T3 rec mg k b 1 2 0 = false := t12
          change X _ _ _ _ _ _ [(4, .int 2), (3, .int 1), (0, .ref ta), (1, .ref ba), (2, .int mg)] _ _ _
          refine x_iinc (lv2 := [(4, .int 3), (3, .int 1), (0, .ref ta), (1, .ref ba), (2, .int mg)]) dX9_goesInto_75 0 rfl (by decide) (by decide) rfl ?_
          refine x_goto (tgt := 10) dX9_goesInto_78 (by decide) ?_
          refine x_iload dX9_goesInto_10 0 rfl ?_
          refine x_iconst (v := 3) dX9_goesInto_12 (by decide) ?_
          refine x_icmp_ge (tgt := 81) dX9_goesInto_13 (by decide) (fun c_13 => ?_) (fun c_13 => absurd (by decide) c_13)
          refine x_iinc (lv2 := [(3, .int 2), (4, .int 3), (0, .ref ta), (1, .ref ba), (2, .int mg)]) dX9_goesInto_81 1 rfl (by decide) (by decide) rfl ?_
          refine x_goto (tgt := 2) dX9_goesInto_84 (by decide) ?_
          refine x_iload_n dX9_goesInto_2 0 rfl ?_
          refine x_iconst (v := 3) dX9_goesInto_3 (by decide) ?_
          refine x_icmp_ge (tgt := 87) dX9_goesInto_4 (by decide) (fun c_4 => absurd c_4 (by decide)) (fun c_4 => ?_)
          refine x_iconst (v := 0) dX9_goesInto_7 (by decide) ?_
          refine x_istore (lv2 := [(4, .int 0), (3, .int 2), (0, .ref ta), (1, .ref ba), (2, .int mg)]) dX9_goesInto_8 (by decide) rfl ?_
          refine x_iload dX9_goesInto_10 0 rfl ?_
          refine x_iconst (v := 3) dX9_goesInto_12 (by decide) ?_
          refine x_icmp_ge (tgt := 81) dX9_goesInto_13 (by decide) (fun c_13 => absurd c_13 (by decide)) (fun c_13 => ?_)
          refine x_iload_n dX9_goesInto_16 1 rfl ?_
          refine x_iload dX9_goesInto_17 0 rfl ?_
          refine x_icmp_eq (tgt := 75) dX9_goesInto_19 (by decide) (fun c_19 => absurd c_19 (by decide)) (fun c_19 => ?_)
          refine x_perm (lv2 := [(4, .int (nI 0)), (3, .int (nI 2)), (0, .ref ta), (1, .ref ba), (2, .int mg)]) [0, 1, 2, 3, 4] rfl ?_
          refine l_goes hT hX (i := 2) (j := 0) (by decide) (fun t20 => ?_) (fun t20 => ?_)
          · have t20 : T3 rec mg k b 2 0 1 = false := t20
            change X _ _ _ _ _ _ [(4, .int 0), (3, .int 2), (0, .ref ta), (1, .ref ba), (2, .int mg)] _ _ _
            refine x_iinc (lv2 := [(4, .int 1), (3, .int 2), (0, .ref ta), (1, .ref ba), (2, .int mg)]) dX9_goesInto_75 0 rfl (by decide) (by decide) rfl ?_
            refine x_goto (tgt := 10) dX9_goesInto_78 (by decide) ?_
            refine x_iload dX9_goesInto_10 0 rfl ?_
            refine x_iconst (v := 3) dX9_goesInto_12 (by decide) ?_
            refine x_icmp_ge (tgt := 81) dX9_goesInto_13 (by decide) (fun c_13 => absurd c_13 (by decide)) (fun c_13 => ?_)
            refine x_iload_n dX9_goesInto_16 1 rfl ?_
            refine x_iload dX9_goesInto_17 0 rfl ?_
            refine x_icmp_eq (tgt := 75) dX9_goesInto_19 (by decide) (fun c_19 => absurd c_19 (by decide)) (fun c_19 => ?_)
            refine x_perm (lv2 := [(4, .int (nI 1)), (3, .int (nI 2)), (0, .ref ta), (1, .ref ba), (2, .int mg)]) [0, 1, 2, 3, 4] rfl ?_
            refine l_goes hT hX (i := 2) (j := 1) (by decide) (fun t21 => ?_) (fun t21 => ?_)
            · have t21 : T3 rec mg k b 2 1 0 = false := t21
              change X _ _ _ _ _ _ [(4, .int 1), (3, .int 2), (0, .ref ta), (1, .ref ba), (2, .int mg)] _ _ _
              refine x_iinc (lv2 := [(4, .int 2), (3, .int 2), (0, .ref ta), (1, .ref ba), (2, .int mg)]) dX9_goesInto_75 0 rfl (by decide) (by decide) rfl ?_
              refine x_goto (tgt := 10) dX9_goesInto_78 (by decide) ?_
              refine x_iload dX9_goesInto_10 0 rfl ?_
              refine x_iconst (v := 3) dX9_goesInto_12 (by decide) ?_
              refine x_icmp_ge (tgt := 81) dX9_goesInto_13 (by decide) (fun c_13 => absurd c_13 (by decide)) (fun c_13 => ?_)
              refine x_iload_n dX9_goesInto_16 1 rfl ?_
              refine x_iload dX9_goesInto_17 0 rfl ?_
              refine x_icmp_eq (tgt := 75) dX9_goesInto_19 (by decide) (fun c_19 => ?_) (fun c_19 => absurd (by decide) c_19)
              refine x_iinc (lv2 := [(4, .int 3), (3, .int 2), (0, .ref ta), (1, .ref ba), (2, .int mg)]) dX9_goesInto_75 0 rfl (by decide) (by decide) rfl ?_
              refine x_goto (tgt := 10) dX9_goesInto_78 (by decide) ?_
              refine x_iload dX9_goesInto_10 0 rfl ?_
              refine x_iconst (v := 3) dX9_goesInto_12 (by decide) ?_
              refine x_icmp_ge (tgt := 81) dX9_goesInto_13 (by decide) (fun c_13 => ?_) (fun c_13 => absurd (by decide) c_13)
              refine x_iinc (lv2 := [(3, .int 3), (4, .int 3), (0, .ref ta), (1, .ref ba), (2, .int mg)]) dX9_goesInto_81 1 rfl (by decide) (by decide) rfl ?_
              refine x_goto (tgt := 2) dX9_goesInto_84 (by decide) ?_
              refine x_iload_n dX9_goesInto_2 0 rfl ?_
              refine x_iconst (v := 3) dX9_goesInto_3 (by decide) ?_
              refine x_icmp_ge (tgt := 87) dX9_goesInto_4 (by decide) (fun c_4 => ?_) (fun c_4 => absurd (by decide) c_4)
              refine x_iconst (v := 0) dX9_goesInto_87 (by decide) ?_
              exact x_zret dX9_goesInto_88 rfl rfl (by unfold GI; simp [t01, t02, t10, t12, t20, t21])
            · have t21 : T3 rec mg k b 2 1 0 = true := t21
              show _ = _
              unfold GI; simp [t01, t02, t10, t12, t20, t21]
          · have t20 : T3 rec mg k b 2 0 1 = true := t20
            show _ = _
            unfold GI; simp [t01, t02, t10, t12, t20]
        · have t12 : T3 rec mg k b 1 2 0 = true := t12
          show _ = _
          unfold GI; simp [t01, t02, t10, t12]
      · have t10 : T3 rec mg k b 1 0 2 = true := t10
        show _ = _
        unfold GI; simp [t01, t02, t10]
    · have t02 : T3 rec mg k b 0 2 1 = true := t02
      show _ = _
      unfold GI; simp [t01, t02]
  · have t01 : T3 rec mg k b 0 1 2 = true := t01
    show _ = _
    unfold GI; simp [t01]

/-! ===== the text's TOKENS ===== -/
def isLb (c : Nat) : Bool := decide (97 ≤ c ∧ c ≤ 122)
def isDb (c : Nat) : Bool := decide (48 ≤ c ∧ c ≤ 57)
def isAb (c : Nat) : Bool := isLb c || isDb c
def isBb (c : Nat) : Bool := decide (c = 32 ∨ c = 10)
theorem isLb_iff {c : Nat} : isLb c = true ↔ 97 ≤ c ∧ c ≤ 122 := decide_eq_true_iff
theorem isDb_iff {c : Nat} : isDb c = true ↔ 48 ≤ c ∧ c ≤ 57 := decide_eq_true_iff
theorem isBb_iff {c : Nat} : isBb c = true ↔ c = 32 ∨ c = 10 := decide_eq_true_iff
theorem isAb_iff {c : Nat} : isAb c = true ↔ (97 ≤ c ∧ c ≤ 122) ∨ (48 ≤ c ∧ c ≤ 57) := by
  unfold isAb
  rw [Bool.or_eq_true, isLb_iff, isDb_iff]
theorem bfalse {b : Bool} (h : ¬ b = true) : b = false := by cases b with | false => rfl | true => exact absurd rfl h
/-- how many from p on, of m -/
def rnN (g : Nat → Bool) (tv : Nat → Nat) : Nat → Nat → Nat
  | 0, _ => 0
  | m + 1, p => if g (tv p) = true then rnN g tv m (p + 1) + 1 else 0
theorem rnN_spec {g : Nat → Bool} {tv : Nat → Nat} : ∀ (m p : Nat), rnN g tv m p ≤ m ∧ (∀ j, j < rnN g tv m p → g (tv (p + j)) = true) ∧ (rnN g tv m p < m → g (tv (p + rnN g tv m p)) = false)
  | 0, p => ⟨Nat.le_refl _, fun j hj => absurd hj (Nat.not_lt_zero j), fun h => absurd h (Nat.not_lt_zero _)⟩
  | m + 1, p => by
    unfold rnN
    by_cases e : g (tv p) = true
    · rw [if_pos e]
      obtain ⟨a, b, c⟩ := rnN_spec (g := g) (tv := tv) m (p + 1)
      refine ⟨by omega, fun j hj => ?_, fun h => ?_⟩
      · cases j with
        | zero => exact e
        | succ j => rw [show p + (j + 1) = p + 1 + j by omega]; exact b j (by omega)
      · rw [show p + (rnN g tv m (p + 1) + 1) = p + 1 + rnN g tv m (p + 1) by omega]; exact c (by omega)
    · rw [if_neg e]
      exact ⟨by omega, fun j hj => absurd hj (Nat.not_lt_zero j), fun _ => bfalse e⟩
def tkS (tn : Nat) (tv : Nat → Nat) (p : Nat) : Nat := p + rnN isBb tv (tn - p) p
def tkN (tn : Nat) (tv : Nat → Nat) (q : Nat) : Nat := rnN isAb tv (tn - q) q
def tkE (tn : Nat) (tv : Nat → Nat) (q : Nat) : Nat := if isAb (tv q) = true then q + tkN tn tv q else q + 1
/-- where the TOKEN i begins -/
def tkP (tn : Nat) (tv : Nat → Nat) : Nat → Nat
  | 0 => tkS tn tv 0
  | i + 1 => tkS tn tv (tkE tn tv (tkP tn tv i))
def tkM (tn : Nat) : Nat := if tn ≤ 600 then tn else 600
theorem tkM_le (tn : Nat) : tkM tn ≤ tn ∧ tkM tn ≤ 600 := by unfold tkM; split <;> omega
theorem tkS_le {tn p : Nat} {tv : Nat → Nat} (h : p ≤ tn) : p ≤ tkS tn tv p ∧ tkS tn tv p ≤ tn ∧ (tkS tn tv p < tn → isBb (tv (tkS tn tv p)) = false) := by
  obtain ⟨a, b, c⟩ := rnN_spec (g := isBb) (tv := tv) (tn - p) p
  unfold tkS
  exact ⟨by omega, by omega, fun q => c (by omega)⟩
theorem tkS_b {tn p : Nat} {tv : Nat → Nat} (h : p < tn) (hb : isBb (tv p) = true) : tkS tn tv p = tkS tn tv (p + 1) := by
  unfold tkS
  rw [show tn - p = (tn - (p + 1)) + 1 by omega, rnN, if_pos hb]
  omega
theorem tkS_n {tn p : Nat} {tv : Nat → Nat} (hb : isBb (tv p) = false) : tkS tn tv p = p := by
  unfold tkS
  cases h : tn - p with
  | zero => rfl
  | succ m => rw [rnN, if_neg (by rw [hb]; decide)]; rfl
theorem tkS_z {tn p : Nat} {tv : Nat → Nat} (h : tn ≤ p) : tkS tn tv p = p := by
  unfold tkS
  rw [show tn - p = 0 by omega]
  rfl
theorem tkN_spec {tn q : Nat} {tv : Nat → Nat} (h : q < tn) (ha : isAb (tv q) = true) : 1 ≤ tkN tn tv q ∧ q + tkN tn tv q ≤ tn ∧ (∀ j, j < tkN tn tv q → isAb (tv (q + j)) = true) ∧ (q + tkN tn tv q < tn → isAb (tv (q + tkN tn tv q)) = false) := by
  obtain ⟨a, b, c⟩ := rnN_spec (g := isAb) (tv := tv) (tn - q) q
  refine ⟨?_, ?_, b, fun h => c ?_⟩
  · unfold tkN
    rw [show tn - q = (tn - q - 1) + 1 by omega, rnN, if_pos ha]
    omega
  · unfold tkN; omega
  · unfold tkN at h; omega
theorem tkE_le {tn q : Nat} {tv : Nat → Nat} (h : q < tn) : q + 1 ≤ tkE tn tv q ∧ tkE tn tv q ≤ tn := by
  unfold tkE
  by_cases e : isAb (tv q) = true
  · rw [if_pos e]
    obtain ⟨a, b, -⟩ := tkN_spec h e
    omega
  · rw [if_neg e]; omega
theorem isAb_nb {c : Nat} (h : isAb c = true) : isBb c = false := bfalse (fun q => by
  rw [isAb_iff] at h
  rw [isBb_iff] at q
  omega)
theorem tkP_le {tn : Nat} {tv : Nat → Nat} : ∀ i, (∀ j, j < i → tkP tn tv j < tkM tn) → i ≤ tkP tn tv i ∧ tkP tn tv i ≤ tn
  | 0, _ => ⟨Nat.zero_le _, (tkS_le (Nat.zero_le _)).2.1⟩
  | i + 1, h => by
    obtain ⟨a, b⟩ := tkP_le i (fun j hj => h j (by omega))
    have h1 := h i (by omega)
    have h2 := (tkM_le tn).1
    obtain ⟨c, d⟩ := tkE_le (tv := tv) (show tkP tn tv i < tn by omega)
    obtain ⟨e, f, -⟩ := tkS_le (tv := tv) d
    show i + 1 ≤ tkS tn tv (tkE tn tv (tkP tn tv i)) ∧ tkS tn tv (tkE tn tv (tkP tn tv i)) ≤ tn
    omega
def allF (g : Nat → Bool) (f : Nat → Nat) : Nat → Bool
  | 0 => true
  | n + 1 => allF g f n && g (f n)
theorem allF_iff {g : Nat → Bool} {f : Nat → Nat} : ∀ n, allF g f n = true ↔ ∀ j, j < n → g (f j) = true
  | 0 => ⟨fun _ j hj => absurd hj (Nat.not_lt_zero j), fun _ => rfl⟩
  | n + 1 => by
    unfold allF
    rw [Bool.and_eq_true, allF_iff n]
    refine ⟨fun h j hj => ?_, fun h => ⟨fun j hj => h j (by omega), h n (by omega)⟩⟩
    by_cases e : j = n
    · subst e; exact h.2
    · exact h.1 j (by omega)
/-- the WORD's number, in base B -/
def cdF (B : Nat) (f : Nat → Nat) : Nat → Nat
  | 0 => 0
  | n + 1 => B * cdF B f n + (f n - 96)
def deF (f : Nat → Nat) : Nat → Nat
  | 0 => 0
  | n + 1 => 10 * deF f n + (f n - 48)
theorem cdF_lt {B : Nat} {f : Nat → Nat} (hB : 27 ≤ B) : ∀ n, (∀ j, j < n → isLb (f j) = true) → cdF B f n < B ^ n
  | 0, _ => Nat.one_pos
  | n + 1, h => by
    have h1 := cdF_lt hB n (fun j hj => h j (by omega))
    have h2 := isLb_iff.mp (h n (by omega))
    have h3 : B * (cdF B f n + 1) ≤ B * B ^ n := Nat.mul_le_mul (Nat.le_refl _) h1
    rw [Nat.mul_add, Nat.mul_one] at h3
    unfold cdF
    rw [Nat.pow_succ, Nat.mul_comm (B ^ n) B]
    omega
theorem deF_lt {f : Nat → Nat} : ∀ n, (∀ j, j < n → isDb (f j) = true) → deF f n < 10 ^ n
  | 0, _ => Nat.one_pos
  | n + 1, h => by
    have h1 := deF_lt n (fun j hj => h j (by omega))
    have h2 := isDb_iff.mp (h n (by omega))
    unfold deF
    rw [Nat.pow_succ]
    omega
theorem cd_inj {B : Nat} (hB : 27 ≤ B) : ∀ (n m : Nat) (f g : Nat → Nat), (∀ j, j < n → isLb (f j) = true) → (∀ j, j < m → isLb (g j) = true) → cdF B f n = cdF B g m → n = m ∧ ∀ j, j < n → f j = g j
  | 0, 0, _, _, _, _, _ => ⟨rfl, fun j hj => absurd hj (Nat.not_lt_zero j)⟩
  | 0, m + 1, f, g, _, hg, e => by
    have := isLb_iff.mp (hg m (by omega))
    unfold cdF at e
    omega
  | n + 1, 0, f, g, hf, _, e => by
    have := isLb_iff.mp (hf n (by omega))
    unfold cdF at e
    omega
  | n + 1, m + 1, f, g, hf, hg, e => by
    have h1 := isLb_iff.mp (hf n (by omega))
    have h2 := isLb_iff.mp (hg m (by omega))
    rw [cdF, cdF] at e
    have e1 : (f n - 96) = (g m - 96) := by
      have := congrArg (· % B) e
      simp only [Nat.mul_add_mod] at this
      rwa [Nat.mod_eq_of_lt (by omega), Nat.mod_eq_of_lt (by omega)] at this
    have e2 : cdF B f n = cdF B g m := Nat.eq_of_mul_eq_mul_left (show 0 < B by omega) (by omega)
    obtain ⟨a, b⟩ := cd_inj hB n m f g (fun j hj => hf j (by omega)) (fun j hj => hg j (by omega)) e2
    subst a
    refine ⟨rfl, fun j hj => ?_⟩
    by_cases e3 : j = n
    · subst e3; omega
    · exact b j (by omega)
theorem cd_cong {B : Nat} {f g : Nat → Nat} : ∀ n, (∀ j, j < n → f j = g j) → cdF B f n = cdF B g n
  | 0, _ => rfl
  | n + 1, h => by
    unfold cdF
    rw [cd_cong n (fun j hj => h j (by omega)), h n (by omega)]
/-- one WORD, as the two sides number it -/
def WP (a b : Nat) : Prop := ∃ (f : Nat → Nat) (n : Nat), n ≤ 8 ∧ (∀ j, j < n → isLb (f j) = true) ∧ a = cdF 27 f n ∧ b = cdF 32 f n
theorem WP.eq {a b a' b' : Nat} (h : WP a b) (h' : WP a' b') : a = a' ↔ b = b' := by
  obtain ⟨f, n, -, hf, rfl, rfl⟩ := h
  obtain ⟨g, m, -, hg, rfl, rfl⟩ := h'
  constructor
  · intro e
    obtain ⟨rfl, q⟩ := cd_inj (by decide) n m f g hf hg e
    exact cd_cong n q
  · intro e
    obtain ⟨rfl, q⟩ := cd_inj (by decide) n m f g hf hg e
    exact cd_cong n q
theorem WP.lt {a b : Nat} (h : WP a b) : a < 2 ^ 63 ∧ b < 2 ^ 63 := by
  obtain ⟨f, n, hn, hf, rfl, rfl⟩ := h
  have h1 := cdF_lt (B := 27) (by decide) n hf
  have h2 := cdF_lt (B := 32) (by decide) n hf
  have h3 : 27 ^ n ≤ 27 ^ 8 := Nat.pow_le_pow_right (by decide) hn
  have h4 : 32 ^ n ≤ 32 ^ 8 := Nat.pow_le_pow_right (by decide) hn
  exact ⟨by omega, by omega⟩
theorem WP.l {a b a' b' : Nat} (h : WP a b) (h' : WP a' b') : (lN b = lN b' ↔ a = a') ∧ (lN a = lN a' ↔ a = a') :=
  ⟨(pk_lEQ h.lt.2 h'.lt.2).trans (h.eq h').symm, pk_lEQ h.lt.1 h'.lt.1⟩
/-- the reserved WORDS -/
def RWt : List (List Nat) := [[102, 111, 97, 109], [116, 104, 105, 110, 103], [98, 111, 120], [112, 97, 100], [100, 114, 111, 112], [107, 101, 101, 112, 115], [112, 114, 105, 99, 101], [119, 101, 105, 103, 104, 115], [115, 105, 122, 101], [109, 97, 114, 107], [114, 111, 111, 109], [98, 101, 97, 114, 115], [115, 105, 100, 101], [116, 104, 105, 99, 107], [97, 114, 101, 97], [102, 114, 111, 109], [116, 105, 109, 101, 115]]
def rwL (i : Nat) : List Nat := RWt.getD i []
def rwF (i j : Nat) : Nat := (rwL i).getD j 0
def k27 (i : Nat) : Nat := cdF 27 (rwF i) (rwL i).length
def k32 (i : Nat) : Nat := cdF 32 (rwF i) (rwL i).length
set_option maxRecDepth 100000 in
theorem rw_len : ∀ i, i < 17 → (rwL i).length ≤ 8 ∧ ∀ j, j < (rwL i).length → isLb (rwF i j) = true := by decide
theorem rw_WP {i : Nat} (h : i < 17) : WP (k27 i) (k32 i) := ⟨rwF i, _, (rw_len i h).1, (rw_len i h).2, rfl, rfl⟩
set_option maxRecDepth 100000 in
theorem k27_inj : ∀ i, i < 17 → ∀ j, j < 17 → k27 i = k27 j → i = j := by decide +kernel
/-- the first that does -/
def fsM (p : Nat → Bool) : Nat → Nat → Nat
  | 0, i => i
  | m + 1, i => if p i = true then i else fsM p m (i + 1)
theorem fsM_spec {p : Nat → Bool} : ∀ (m i : Nat), i ≤ fsM p m i ∧ fsM p m i ≤ i + m ∧ (∀ j, i ≤ j → j < fsM p m i → p j = false) ∧ (fsM p m i < i + m → p (fsM p m i) = true)
  | 0, i => ⟨Nat.le_refl _, Nat.le_refl _, fun j h1 h2 => absurd h2 (by unfold fsM; omega), fun h => absurd h (by unfold fsM; omega)⟩
  | m + 1, i => by
    unfold fsM
    by_cases e : p i = true
    · rw [if_pos e]
      exact ⟨by omega, by omega, fun j h1 h2 => absurd h2 (by omega), fun _ => e⟩
    · rw [if_neg e]
      obtain ⟨a, b, c, d⟩ := fsM_spec (p := p) m (i + 1)
      refine ⟨by omega, by omega, fun j h1 h2 => ?_, fun h => d (by omega)⟩
      by_cases q : j = i
      · subst q; exact bfalse e
      · exact c j (by omega) h2
theorem fsM_cong {p p' : Nat → Bool} : ∀ (m i : Nat), (∀ j, i ≤ j → j < i + m → p j = p' j) → fsM p m i = fsM p' m i
  | 0, _, _ => rfl
  | m + 1, i, h => by
    unfold fsM
    rw [h i (by omega) (by omega), fsM_cong m (i + 1) (fun j h1 h2 => h j (by omega) (by omega))]
/-- the kind of a WORD: 0 to 16 reserved, 17 a NAME -/
def kW (w : Nat) : Nat := fsM (fun i => k27 i == w) 17 0
theorem kW_le (w : Nat) : kW w ≤ 17 := by have := (fsM_spec (p := fun i => k27 i == w) 17 0).2.1; unfold kW; omega
theorem kW_iff {w i : Nat} (h : i < 17) : kW w = i ↔ w = k27 i := by
  obtain ⟨a, b, c, d⟩ := fsM_spec (p := fun i => k27 i == w) 17 0
  constructor
  · intro e
    have e2 : fsM (fun i => k27 i == w) 17 0 = i := e
    rw [e2] at d
    exact (eq_of_beq (d (by omega))).symm
  · intro e
    subst e
    by_cases q : kW (k27 i) = i
    · exact q
    · exfalso
      by_cases q2 : kW (k27 i) < i
      · have := d (by have : kW (k27 i) = fsM (fun j => k27 j == k27 i) 17 0 := rfl; omega)
        exact q (k27_inj _ (by have : kW (k27 i) = fsM (fun j => k27 j == k27 i) 17 0 := rfl; omega) _ h (eq_of_beq this))
      · have := c i (by omega) (by have : kW (k27 i) = fsM (fun j => k27 j == k27 i) 17 0 := rfl; omega)
        simp at this
theorem kW_of32 {w c : Nat} (h : WP w c) : fsM (fun i => decide (lN (k32 i) = lN c)) 17 0 = kW w := fsM_cong 17 0 (fun j _ hj => by
  have e := ((rw_WP (show j < 17 by omega)).l h).1
  by_cases q : k27 j = w
  · rw [decide_eq_true (e.mpr q)]; simp [q]
  · rw [decide_eq_false (fun z => q (e.mp z))]; exact (bfalse (fun z => q (eq_of_beq z))).symm)
abbrev tkf (tv : Nat → Nat) (q : Nat) : Nat → Nat := fun j => tv (q + j)
/-- the kind of the TOKEN that begins at q: 18 a NUMBER, 19 and 20 the signs, 21 none -/
def tkK (tn : Nat) (tv : Nat → Nat) (q : Nat) : Nat := if isAb (tv q) = true then (if allF isLb (tkf tv q) (tkN tn tv q) = true ∧ tkN tn tv q ≤ 8 then kW (cdF 27 (tkf tv q) (tkN tn tv q)) else if allF isDb (tkf tv q) (tkN tn tv q) = true ∧ tkN tn tv q ≤ 5 then 18 else 21) else if tv q = 59 then 19 else if tv q = 58 then 20 else 21
def tkV (tn : Nat) (tv : Nat → Nat) (q : Nat) : Nat := deF (tkf tv q) (tkN tn tv q)
def tkW (tn : Nat) (tv : Nat → Nat) (q : Nat) : Nat := cdF 27 (tkf tv q) (tkN tn tv q)
def tkC (tn : Nat) (tv : Nat → Nat) (q : Nat) : Nat := cdF 32 (tkf tv q) (tkN tn tv q)
/-- of the TOKEN i: its kind (22: the text's end), its NUMBER, its WORD, its place -/
def kd (tn : Nat) (tv : Nat → Nat) (i : Nat) : Nat := if tkP tn tv i < tkM tn then tkK tn tv (tkP tn tv i) else 22
def nv (tn : Nat) (tv : Nat → Nat) (i : Nat) : Nat := tkV tn tv (tkP tn tv i)
def wn (tn : Nat) (tv : Nat → Nat) (i : Nat) : Nat := tkW tn tv (tkP tn tv i)
def plc' (tn : Nat) (tv : Nat → Nat) (i : Nat) : Nat := if tkP tn tv i < tkM tn then tkP tn tv i else tkM tn
theorem tkK_le (tn : Nat) (tv : Nat → Nat) (q : Nat) : tkK tn tv q ≤ 21 := by
  unfold tkK
  have := kW_le (cdF 27 (tkf tv q) (tkN tn tv q))
  split
  · split
    · omega
    · split <;> omega
  · split
    · omega
    · split <;> omega
theorem tkK_word {tn q : Nat} {tv : Nat → Nat} (h : tkK tn tv q ≤ 17) : isAb (tv q) = true ∧ allF isLb (tkf tv q) (tkN tn tv q) = true ∧ tkN tn tv q ≤ 8 ∧ tkK tn tv q = kW (tkW tn tv q) ∧ WP (tkW tn tv q) (tkC tn tv q) := by
  unfold tkK at h ⊢
  by_cases a : isAb (tv q) = true
  · rw [if_pos a] at h ⊢
    by_cases b : allF isLb (tkf tv q) (tkN tn tv q) = true ∧ tkN tn tv q ≤ 8
    · rw [if_pos b]
      exact ⟨a, b.1, b.2, rfl, _, _, b.2, (allF_iff _).mp b.1, rfl, rfl⟩
    · rw [if_neg b] at h
      split at h <;> omega
  · rw [if_neg a] at h
    split at h
    · omega
    · split at h <;> omega
theorem tkK_num {tn q : Nat} {tv : Nat → Nat} (h : tkK tn tv q = 18) : isAb (tv q) = true ∧ allF isDb (tkf tv q) (tkN tn tv q) = true ∧ tkN tn tv q ≤ 5 ∧ tkV tn tv q < 100000 := by
  unfold tkK at h
  have hw := kW_le (cdF 27 (tkf tv q) (tkN tn tv q))
  by_cases a : isAb (tv q) = true
  · rw [if_pos a] at h
    split at h
    · omega
    · split at h
      · rename_i b
        refine ⟨a, b.1, b.2, ?_⟩
        have h1 := deF_lt (tkN tn tv q) ((allF_iff _).mp b.1)
        have h2 : 10 ^ tkN tn tv q ≤ 10 ^ 5 := Nat.pow_le_pow_right (by decide) b.2
        exact Nat.lt_of_lt_of_le h1 h2
      · omega
  · rw [if_neg a] at h
    split at h
    · omega
    · split at h <;> omega
/-- what a reader of a run counts -/
def cnF (g : Nat → Bool) (f : Nat → Nat) : Nat → Nat
  | 0 => 0
  | n + 1 => cnF g f n + if g (f n) = true then 1 else 0
theorem cnF_0 {g : Nat → Bool} {f : Nat → Nat} : ∀ n, cnF g f n = 0 ↔ ∀ j, j < n → g (f j) = false
  | 0 => ⟨fun _ j hj => absurd hj (Nat.not_lt_zero j), fun _ => rfl⟩
  | n + 1 => by
    unfold cnF
    constructor
    · intro h j hj
      by_cases e : j = n
      · subst e
        by_cases q : g (f j) = true
        · rw [if_pos q] at h; omega
        · exact bfalse q
      · exact (cnF_0 n).mp (by omega) j (by omega)
    · intro h
      rw [(cnF_0 n).mpr (fun j hj => h j (by omega)), if_neg (by rw [h n (by omega)]; decide)]
theorem cnF_sum {f : Nat → Nat} : ∀ n, (∀ j, j < n → isAb (f j) = true) → cnF isLb f n + cnF isDb f n = n
  | 0, _ => rfl
  | n + 1, h => by
    have h1 := cnF_sum n (fun j hj => h j (by omega))
    have h2 := isAb_iff.mp (h n (by omega))
    unfold cnF
    by_cases e : isLb (f n) = true
    · rw [if_pos e, if_neg (fun q => by have := isLb_iff.mp e; have := isDb_iff.mp q; omega)]; omega
    · rw [if_neg e, if_pos (isDb_iff.mpr (by have := mt isLb_iff.mpr e; omega))]; omega
def c32F (f : Nat → Nat) : Nat → Int64
  | 0 => 0
  | n + 1 => if isLb (f n) = true then c32F f n * 32 + (nI (f n)).toInt64 - 97 + 1 else c32F f n
def nuF (f : Nat → Nat) : Nat → Int64
  | 0 => 0
  | n + 1 => if isLb (f n) = true then nuF f n else nuF f n * 10 + (nI (f n)).toInt64 - 48
theorem c32F_eq {f : Nat → Nat} : ∀ n, (∀ j, j < n → isLb (f j) = true) → c32F f n = lN (cdF 32 f n)
  | 0, _ => rfl
  | n + 1, h => by
    have h2 := isLb_iff.mp (h n (by omega))
    unfold c32F cdF
    rw [if_pos (h n (by omega)), c32F_eq n (fun j hj => h j (by omega)), nI_l (by omega), show (32 : Int64) = lN 32 from rfl, show (97 : Int64) = lN 97 from rfl, lN_mul, lN_add, lN_sub (by omega), lN_1]
    congr 1
    omega
theorem nuF_eq {f : Nat → Nat} : ∀ n, (∀ j, j < n → isDb (f j) = true) → nuF f n = lN (deF f n)
  | 0, _ => rfl
  | n + 1, h => by
    have h2 := isDb_iff.mp (h n (by omega))
    unfold nuF deF
    rw [if_neg (fun q => by have := isLb_iff.mp q; omega), nuF_eq n (fun j hj => h j (by omega)), nI_l (by omega), show (10 : Int64) = lN 10 from rfl, show (48 : Int64) = lN 48 from rfl, lN_mul, lN_add, lN_sub (by omega)]
    congr 1
    omega
def gdF (f : Nat → Nat) : Nat → Bool
  | 0 => true
  | n + 1 => gdF f n && (isLb (f n) == isLb (f 0))
theorem gdF_iff {f : Nat → Nat} : ∀ n, gdF f n = true ↔ ∀ j, j < n → isLb (f j) = isLb (f 0)
  | 0 => ⟨fun _ j hj => absurd hj (Nat.not_lt_zero j), fun _ => rfl⟩
  | n + 1 => by
    unfold gdF
    rw [Bool.and_eq_true, gdF_iff n, beq_iff_eq]
    refine ⟨fun h j hj => ?_, fun h => ⟨fun j hj => h j (by omega), h n (by omega)⟩⟩
    by_cases e : j = n
    · subst e; exact h.2
    · exact h.1 j (by omega)
def w27F (f : Nat → Nat) : Nat → Int64
  | 0 => 0
  | n + 1 => if n < 8 then 27 * w27F f n + (nI (f n)).toInt64 - 96 else w27F f n
def n10F (f : Nat → Nat) : Nat → Int32
  | 0 => 0
  | n + 1 => if n < 5 then 10 * n10F f n + nI (f n) - 48 else n10F f n
theorem w27F_eq {f : Nat → Nat} : ∀ n, n ≤ 8 → (∀ j, j < n → isLb (f j) = true) → w27F f n = lN (cdF 27 f n)
  | 0, _, _ => rfl
  | n + 1, hn, h => by
    have h2 := isLb_iff.mp (h n (by omega))
    unfold w27F cdF
    rw [if_pos (by omega), w27F_eq n (by omega) (fun j hj => h j (by omega)), nI_l (by omega), show (27 : Int64) = lN 27 from rfl, show (96 : Int64) = lN 96 from rfl, lN_mul, lN_add, lN_sub (by omega)]
    congr 1
    omega
theorem n10F_eq {f : Nat → Nat} : ∀ n, n ≤ 5 → (∀ j, j < n → isDb (f j) = true) → n10F f n = nI (deF f n)
  | 0, _, _ => rfl
  | n + 1, hn, h => by
    have h2 := isDb_iff.mp (h n (by omega))
    unfold n10F deF
    rw [if_pos (by omega), n10F_eq n (by omega) (fun j hj => h j (by omega)), show (10 : Int32) = nI 10 from rfl, show (48 : Int32) = nI 48 from rfl, pk_mul, nI_add, pk_sub (by omega)]
    congr 1
    omega
/-- what the class makes of a run -/
theorem run_cls {tn q : Nat} {tv : Nat → Nat} (h : q < tn) (ha : isAb (tv q) = true) :
    (cnF isDb (tkf tv q) (tkN tn tv q) = 0 ∧ cnF isLb (tkf tv q) (tkN tn tv q) ≤ 8 → tkK tn tv q = kW (tkW tn tv q) ∧ tkK tn tv q ≤ 17 ∧ c32F (tkf tv q) (tkN tn tv q) = lN (tkC tn tv q) ∧ WP (tkW tn tv q) (tkC tn tv q)) ∧
    (¬ (cnF isDb (tkf tv q) (tkN tn tv q) = 0 ∧ cnF isLb (tkf tv q) (tkN tn tv q) ≤ 8) → (cnF isLb (tkf tv q) (tkN tn tv q) = 0 ∧ cnF isDb (tkf tv q) (tkN tn tv q) ≤ 5 → tkK tn tv q = 18 ∧ nuF (tkf tv q) (tkN tn tv q) = lN (tkV tn tv q)) ∧ (¬ (cnF isLb (tkf tv q) (tkN tn tv q) = 0 ∧ cnF isDb (tkf tv q) (tkN tn tv q) ≤ 5) → tkK tn tv q = 21)) := by
  obtain ⟨n1, n2, n3, n4⟩ := tkN_spec h ha
  have hs := cnF_sum (f := tkf tv q) (tkN tn tv q) n3
  have hA : ∀ j, j < tkN tn tv q → (isDb (tkf tv q j) = false ↔ isLb (tkf tv q j) = true) := fun j hj => by
    have : (97 ≤ tkf tv q j ∧ tkf tv q j ≤ 122) ∨ (48 ≤ tkf tv q j ∧ tkf tv q j ≤ 57) := isAb_iff.mp (n3 j hj)
    by_cases e : isLb (tkf tv q j) = true
    · exact ⟨fun _ => e, fun _ => bfalse (fun z => by have := isLb_iff.mp e; have := isDb_iff.mp z; omega)⟩
    · exact ⟨fun z => absurd (isDb_iff.mpr (show 48 ≤ tkf tv q j ∧ tkf tv q j ≤ 57 by have := mt isLb_iff.mpr e; omega)) (by rw [z]; decide), fun z => absurd z e⟩
  have hD : cnF isDb (tkf tv q) (tkN tn tv q) = 0 ↔ allF isLb (tkf tv q) (tkN tn tv q) = true := by
    rw [cnF_0, allF_iff]
    exact ⟨fun z j hj => (hA j hj).mp (z j hj), fun z j hj => (hA j hj).mpr (z j hj)⟩
  have hL : cnF isLb (tkf tv q) (tkN tn tv q) = 0 ↔ allF isDb (tkf tv q) (tkN tn tv q) = true := by
    rw [cnF_0, allF_iff]
    refine ⟨fun z j hj => ?_, fun z j hj => bfalse (fun y => ?_)⟩
    · by_cases e : isDb (tkf tv q j) = true
      · exact e
      · have := (hA j hj).mp (bfalse e); rw [z j hj] at this; exact absurd this (by decide)
    · have := (hA j hj).mpr y; rw [z j hj] at this; exact absurd this (by decide)
  refine ⟨fun z => ?_, fun z => ⟨fun y => ?_, fun y => ?_⟩⟩
  · have b : allF isLb (tkf tv q) (tkN tn tv q) = true ∧ tkN tn tv q ≤ 8 := ⟨hD.mp z.1, by omega⟩
    have e : tkK tn tv q = kW (tkW tn tv q) := by unfold tkK; rw [if_pos ha, if_pos b]; rfl
    refine ⟨e, by rw [e]; exact kW_le _, c32F_eq _ ((allF_iff _).mp b.1), _, _, b.2, (allF_iff _).mp b.1, rfl, rfl⟩
  · have b : allF isDb (tkf tv q) (tkN tn tv q) = true ∧ tkN tn tv q ≤ 5 := ⟨hL.mp y.1, by omega⟩
    have nb : ¬ (allF isLb (tkf tv q) (tkN tn tv q) = true ∧ tkN tn tv q ≤ 8) := fun x => by
      have := hD.mpr x.1
      omega
    exact ⟨by unfold tkK; rw [if_pos ha, if_neg nb, if_pos b], nuF_eq _ ((allF_iff _).mp b.1)⟩
  · have nb : ¬ (allF isLb (tkf tv q) (tkN tn tv q) = true ∧ tkN tn tv q ≤ 8) := fun x => z ⟨hD.mpr x.1, by omega⟩
    have nb2 : ¬ (allF isDb (tkf tv q) (tkN tn tv q) = true ∧ tkN tn tv q ≤ 5) := fun x => y ⟨hL.mpr x.1, by omega⟩
    unfold tkK; rw [if_pos ha, if_neg nb, if_neg nb2]
/-- what the model makes of a run -/
theorem run_mod {tn q : Nat} {tv : Nat → Nat} (h : q < tn) (ha : isAb (tv q) = true) :
    (¬ (gdF (tkf tv q) (tkN tn tv q) = true ∧ tkN tn tv q ≤ if isLb (tv q) = true then 8 else 5) → tkK tn tv q = 21) ∧
    (gdF (tkf tv q) (tkN tn tv q) = true → tkN tn tv q ≤ (if isLb (tv q) = true then 8 else 5) → (isLb (tv q) = true → tkK tn tv q ≤ 17 ∧ w27F (tkf tv q) (tkN tn tv q) = lN (tkW tn tv q)) ∧ (isLb (tv q) = false → tkK tn tv q = 18 ∧ n10F (tkf tv q) (tkN tn tv q) = nI (tkV tn tv q))) := by
  obtain ⟨n1, n2, n3, n4⟩ := tkN_spec h ha
  have hG := gdF_iff (f := tkf tv q) (tkN tn tv q)
  have h0 : tkf tv q 0 = tv q := rfl
  have hl : ∀ j, j < tkN tn tv q → isLb (tkf tv q j) = false → isDb (tkf tv q j) = true := fun j hj e => by
    have : (97 ≤ tkf tv q j ∧ tkf tv q j ≤ 122) ∨ (48 ≤ tkf tv q j ∧ tkf tv q j ≤ 57) := isAb_iff.mp (n3 j hj)
    exact isDb_iff.mpr (show 48 ≤ tkf tv q j ∧ tkf tv q j ≤ 57 by have := mt isLb_iff.mpr (show ¬ isLb (tkf tv q j) = true by rw [e]; decide); omega)
  rw [h0] at hG
  by_cases e : isLb (tv q) = true
  · rw [if_pos e]
    have hG2 : gdF (tkf tv q) (tkN tn tv q) = true ↔ allF isLb (tkf tv q) (tkN tn tv q) = true := by
      rw [hG, allF_iff, e]
    refine ⟨fun z => ?_, fun z1 z2 => ⟨fun _ => ?_, fun z => absurd e (by rw [z]; decide)⟩⟩
    · rw [hG2] at z
      have nb2 : ¬ (allF isDb (tkf tv q) (tkN tn tv q) = true ∧ tkN tn tv q ≤ 5) := fun x => by
        have := isDb_iff.mp ((allF_iff _).mp x.1 0 (by omega))
        have := isLb_iff.mp e
        simp only [tkf, Nat.add_zero] at *
        omega
      unfold tkK; rw [if_pos ha, if_neg z, if_neg nb2]
    · have b : allF isLb (tkf tv q) (tkN tn tv q) = true ∧ tkN tn tv q ≤ 8 := ⟨hG2.mp z1, z2⟩
      have e3 : tkK tn tv q = kW (tkW tn tv q) := by unfold tkK; rw [if_pos ha, if_pos b]; rfl
      exact ⟨by rw [e3]; exact kW_le _, w27F_eq _ b.2 ((allF_iff _).mp b.1)⟩
  · rw [if_neg e]
    have ef := bfalse e
    have hG2 : gdF (tkf tv q) (tkN tn tv q) = true ↔ allF isDb (tkf tv q) (tkN tn tv q) = true := by
      rw [hG, allF_iff, ef]
      refine ⟨fun z j hj => hl j hj (z j hj), fun z j hj => bfalse (fun y => ?_)⟩
      have := isDb_iff.mp (z j hj)
      have := isLb_iff.mp y
      omega
    have nb : ¬ (allF isLb (tkf tv q) (tkN tn tv q) = true ∧ tkN tn tv q ≤ 8) := fun x => e ((allF_iff _).mp x.1 0 (by omega))
    refine ⟨fun z => ?_, fun z1 z2 => ⟨fun z => absurd z e, fun _ => ?_⟩⟩
    · rw [hG2] at z
      unfold tkK; rw [if_pos ha, if_neg nb, if_neg z]
    · have b : allF isDb (tkf tv q) (tkN tn tv q) = true ∧ tkN tn tv q ≤ 5 := ⟨hG2.mp z1, z2⟩
      exact ⟨by unfold tkK; rw [if_pos ha, if_neg nb, if_pos b], n10F_eq _ b.2 ((allF_iff _).mp b.1)⟩

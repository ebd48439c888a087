/-! ===== journeys ===== -/
def jgH (tv : Nat → Nat) (fm i : Nat) : Nat := tv (fm + 1 + 2 * i) * 256 + tv (fm + 2 + 2 * i)
def jgS (tv : Nat → Nat) (fm : Nat) : Nat := tv (fm + 1 + 6 + 0) + tv (fm + 1 + 6 + 1) + tv (fm + 1 + 6 + 2)
/-- heights from i on, m of them, are heights -/
def hgOk (tv : Nat → Nat) (fm : Nat) : Nat → Nat → Bool
  | 0, _ => true
  | m + 1, i => decide (jgH tv fm i ≤ 30000) && hgOk tv fm m (i + 1)
def legOk (tv : Nat → Nat) (fm : Nat) : Bool := decide (tv fm < 6 ∧ 1 ≤ jgS tv fm) && hgOk tv fm 3 0
def legsOk (tv : Nat → Nat) : Nat → Nat → Bool
  | 0, _ => true
  | m + 1, fm => legOk tv fm && legsOk tv m (fm + 10)
abbrev jgOk (tn : Nat) (tv : Nat → Nat) : Prop := 10 ≤ tn ∧ tn ≤ 400 ∧ tn % 10 = 0 ∧ legsOk tv (tn / 10) 0 = true
/-- shares that HOLD -/
def hdF (ho : Nat → Bool) (sh : Nat → Nat) : Nat → Nat → Nat
  | 0, _ => 0
  | m + 1, i => (if ho i then sh i else 0) + hdF ho sh m (i + 1)
noncomputable def hdL (rec : Nat → Int32) (k : Nat) (tv : Nat → Nat) (fm : Nat) : Nat := hdF (fun i => HO rec (164 + 24 * k) (tv fm) 100 (rec (164 + 24 * k)) (nI (jgH tv fm i)) (rec (164 + 24 * k + 4))) (fun i => tv (fm + 1 + 6 + i)) 3 0
noncomputable def jgP (rec : Nat → Int32) (k : Nat) (tv : Nat → Nat) : Nat → Nat → Int64 → Int64
  | 0, _, p => p
  | m + 1, fm, p => jgP rec k tv m (fm + 10) (p * (nI (hdL rec k tv fm)).toInt64 / (nI (jgS tv fm)).toInt64)
theorem hdF_le {ho : Nat → Bool} {sh : Nat → Nat} : ∀ (m i : Nat), (∀ j, i ≤ j → j < i + m → sh j < 256) → hdF ho sh m i ≤ 256 * m
  | 0, i, _ => Nat.le_refl 0
  | m + 1, i, h => by
    have h1 := hdF_le (ho := ho) (sh := sh) m (i + 1) (fun j a b => h j (by omega) (by omega))
    have h2 := h i (by omega) (by omega)
    unfold hdF
    split <;> omega
theorem legsOk_at {tv : Nat → Nat} : ∀ (m fm : Nat), legsOk tv m fm = true → ∀ q, q < m → legOk tv (fm + 10 * q) = true
  | 0, fm, _, q, hq => absurd hq (Nat.not_lt_zero q)
  | m + 1, fm, h, q, hq => by
    unfold legsOk at h
    obtain ⟨h1, h2⟩ := Bool.and_eq_true_iff.mp h
    cases q with
    | zero => exact h1
    | succ q => rw [show fm + 10 * (q + 1) = fm + 10 + 10 * q by omega]; exact legsOk_at m (fm + 10) h2 q (by omega)
theorem legOk_is {tv : Nat → Nat} {fm : Nat} (h : legOk tv fm = true) : tv fm < 6 ∧ 1 ≤ jgS tv fm := by
  unfold legOk at h
  exact of_decide_eq_true (Bool.and_eq_true_iff.mp h).1

set_option maxRecDepth 100000 in
set_option maxHeartbeats 4000000 in
theorem c_heightOfLeg {G : GT} {h : List PE} {n td : Nat} {fk br : Int32} {tn : Nat} {tv : Nat → Nat} (hfa : FaR h n td fk br) (hT : TpR h tn tv) (htn : tn ≤ 640) (htv : ∀ j, j < tn → tv j < 256) {fm i : Nat} (hfm : fm + 10 ≤ tn) (hi : i < 3)  : CT G mX11_heightOfLeg 1 21 [.ref 3, .int (nI fm), .int (nI i)] h (fun o => o = (some (.int (nI (jgH tv fm i))), h)) := by
  have f3 : h[3]? = some (cO 11 [.ref 4, .ref 6, .ref 15, .ref 16, .ref 21, .ref 25, .ref 32, .ref 35, .int (nI n), .int (nI td), .int fk, .int br]) := hfa
  obtain ⟨tb, f4, f5, e5⟩ := id hT
  show X (NF G) G mX11_heightOfLeg 1 21 0 [(0, .ref 3), (1, .int (nI fm)), (2, .int (nI i))] [] h _
  refine x_aload_n dX11_heightOfLeg_0 0 rfl ?_
  refine x_get (v := .ref 4) dX11_heightOfLeg_1 fX11_10 f3 (by decide) rfl ?_
  refine x_iload_n dX11_heightOfLeg_4 1 rfl ?_
  refine x_iconst (v := 1) dX11_heightOfLeg_5 (by decide) ?_
  refine x_iaddN (a := fm) (b := 1) dX11_heightOfLeg_6 ?_
  refine x_iconst (v := 2) dX11_heightOfLeg_7 (by decide) ?_
  refine x_iload_n dX11_heightOfLeg_8 2 rfl ?_
  refine x_imulN (a := 2) (b := i) dX11_heightOfLeg_9 ?_
  refine x_iaddN (a := (fm + 1)) (b := (2 * i)) dX11_heightOfLeg_10 ?_
  refine x_callV (rf' := 0) (rl' := 0) [.int (nI ((fm + 1) + (2 * i)))] [] dX11_heightOfLeg_11 vX11_176 Y_X8_byteAt f4 (by decide) rfl rfl (Nat.le_of_ble_eq_true rfl) (Nat.le_of_ble_eq_true rfl) (by decide) (by decide) (c_byteL (d := ((fm + 1) + (2 * i))) hT htn (by omega)) (fun _ _ e1 => ?_)
  cases e1
  have tb2 := htv (((fm + 1) + (2 * i))) (by omega)
  refine x_sipush (v := 256) dX11_heightOfLeg_14 (by decide) ?_
  refine x_imulN (a := (tv (((fm + 1) + (2 * i))))) (b := 256) dX11_heightOfLeg_17 ?_
  refine x_aload_n dX11_heightOfLeg_18 0 rfl ?_
  refine x_get (v := .ref 4) dX11_heightOfLeg_19 fX11_10 f3 (by decide) rfl ?_
  refine x_iload_n dX11_heightOfLeg_22 1 rfl ?_
  refine x_iconst (v := 2) dX11_heightOfLeg_23 (by decide) ?_
  refine x_iaddN (a := fm) (b := 2) dX11_heightOfLeg_24 ?_
  refine x_iconst (v := 2) dX11_heightOfLeg_25 (by decide) ?_
  refine x_iload_n dX11_heightOfLeg_26 2 rfl ?_
  refine x_imulN (a := 2) (b := i) dX11_heightOfLeg_27 ?_
  refine x_iaddN (a := (fm + 2)) (b := (2 * i)) dX11_heightOfLeg_28 ?_
  refine x_callV (rf' := 0) (rl' := 0) [.int (nI ((fm + 2) + (2 * i)))] [.int (nI ((tv (((fm + 1) + (2 * i)))) * 256))] dX11_heightOfLeg_29 vX11_176 Y_X8_byteAt f4 (by decide) rfl rfl (Nat.le_of_ble_eq_true rfl) (Nat.le_of_ble_eq_true rfl) (by decide) (by decide) (c_byteL (d := ((fm + 2) + (2 * i))) hT htn (by omega)) (fun _ _ e3 => ?_)
  cases e3
  have tb4 := htv (((fm + 2) + (2 * i))) (by omega)
  refine x_iaddN (a := ((tv (((fm + 1) + (2 * i)))) * 256)) (b := (tv (((fm + 2) + (2 * i))))) dX11_heightOfLeg_32 ?_
  exact x_iret dX11_heightOfLeg_33 rfl rfl

set_option maxRecDepth 100000 in
set_option maxHeartbeats 4000000 in
theorem c_shareOfLeg {G : GT} {h : List PE} {n td : Nat} {fk br : Int32} {tn : Nat} {tv : Nat → Nat} (hfa : FaR h n td fk br) (hT : TpR h tn tv) (htn : tn ≤ 640) (htv : ∀ j, j < tn → tv j < 256) {fm i : Nat} (hfm : fm + 10 ≤ tn) (hi : i < 3)  : CT G mX11_shareOfLeg 1 21 [.ref 3, .int (nI fm), .int (nI i)] h (fun o => o = (some (.int (nI (tv (fm + 1 + 6 + i)))), h)) := by
  have f3 : h[3]? = some (cO 11 [.ref 4, .ref 6, .ref 15, .ref 16, .ref 21, .ref 25, .ref 32, .ref 35, .int (nI n), .int (nI td), .int fk, .int br]) := hfa
  obtain ⟨tb, f4, f5, e5⟩ := id hT
  show X (NF G) G mX11_shareOfLeg 1 21 0 [(0, .ref 3), (1, .int (nI fm)), (2, .int (nI i))] [] h _
  refine x_aload_n dX11_shareOfLeg_0 0 rfl ?_
  refine x_get (v := .ref 4) dX11_shareOfLeg_1 fX11_10 f3 (by decide) rfl ?_
  refine x_iload_n dX11_shareOfLeg_4 1 rfl ?_
  refine x_iconst (v := 1) dX11_shareOfLeg_5 (by decide) ?_
  refine x_iaddN (a := fm) (b := 1) dX11_shareOfLeg_6 ?_
  refine x_bipush (v := 6) dX11_shareOfLeg_7 (by decide) ?_
  refine x_iaddN (a := (fm + 1)) (b := 6) dX11_shareOfLeg_9 ?_
  refine x_iload_n dX11_shareOfLeg_10 2 rfl ?_
  refine x_iaddN (a := ((fm + 1) + 6)) (b := i) dX11_shareOfLeg_11 ?_
  refine x_callV (rf' := 0) (rl' := 0) [.int (nI (((fm + 1) + 6) + i))] [] dX11_shareOfLeg_12 vX11_176 Y_X8_byteAt f4 (by decide) rfl rfl (Nat.le_of_ble_eq_true rfl) (Nat.le_of_ble_eq_true rfl) (by decide) (by decide) (c_byteL (d := (((fm + 1) + 6) + i)) hT htn (by omega)) (fun _ _ e1 => ?_)
  cases e1
  have tb2 := htv ((((fm + 1) + 6) + i)) (by omega)
  exact x_iret dX11_shareOfLeg_15 rfl rfl

set_option maxRecDepth 100000 in
set_option maxHeartbeats 4000000 in
theorem c_sharesOfLeg {G : GT} {h : List PE} {n td : Nat} {fk br : Int32} {tn : Nat} {tv : Nat → Nat} (hfa : FaR h n td fk br) (hT : TpR h tn tv) (htn : tn ≤ 640) (htv : ∀ j, j < tn → tv j < 256) {fm : Nat} (hfm : fm + 10 ≤ tn)  : CT G mX11_sharesOfLeg 2 43 [.ref 3, .int (nI fm)] h (fun o => o = (some (.int (nI (jgS tv fm))), h)) := by
  have f3 : h[3]? = some (cO 11 [.ref 4, .ref 6, .ref 15, .ref 16, .ref 21, .ref 25, .ref 32, .ref 35, .int (nI n), .int (nI td), .int fk, .int br]) := hfa
  obtain ⟨tb, f4, f5, e5⟩ := id hT
  show X (NF G) G mX11_sharesOfLeg 2 43 0 [(0, .ref 3), (1, .int (nI fm))] [] h _
  refine x_aload_n dX11_sharesOfLeg_0 0 rfl ?_
  refine x_iload_n dX11_sharesOfLeg_1 1 rfl ?_
  refine x_iconst (v := 0) dX11_sharesOfLeg_2 (by decide) ?_
  refine x_callV (rf' := 1) (rl' := 21) [.int (nI fm), .int 0] [] dX11_sharesOfLeg_3 vX11_306 Y_X11_shareOfLeg f3 (by decide) rfl rfl (Nat.le_of_ble_eq_true rfl) (Nat.le_of_ble_eq_true rfl) (by decide) (by decide) (c_shareOfLeg (i := 0) hfa hT htn htv (fm := fm) (by omega) (by omega)) (fun _ _ e1 => ?_)
  cases e1
  refine x_aload_n dX11_sharesOfLeg_6 0 rfl ?_
  refine x_iload_n dX11_sharesOfLeg_7 1 rfl ?_
  refine x_iconst (v := 1) dX11_sharesOfLeg_8 (by decide) ?_
  refine x_callV (rf' := 1) (rl' := 21) [.int (nI fm), .int 1] [.int (nI (tv (fm + 1 + 6 + 0)))] dX11_sharesOfLeg_9 vX11_306 Y_X11_shareOfLeg f3 (by decide) rfl rfl (Nat.le_of_ble_eq_true rfl) (Nat.le_of_ble_eq_true rfl) (by decide) (by decide) (c_shareOfLeg (i := 1) hfa hT htn htv (fm := fm) (by omega) (by omega)) (fun _ _ e2 => ?_)
  cases e2
  refine x_iaddN (a := (tv (fm + 1 + 6 + 0))) (b := (tv (fm + 1 + 6 + 1))) dX11_sharesOfLeg_12 ?_
  refine x_aload_n dX11_sharesOfLeg_13 0 rfl ?_
  refine x_iload_n dX11_sharesOfLeg_14 1 rfl ?_
  refine x_iconst (v := 2) dX11_sharesOfLeg_15 (by decide) ?_
  refine x_callV (rf' := 1) (rl' := 21) [.int (nI fm), .int 2] [.int (nI ((tv (fm + 1 + 6 + 0)) + (tv (fm + 1 + 6 + 1))))] dX11_sharesOfLeg_16 vX11_306 Y_X11_shareOfLeg f3 (by decide) rfl rfl (Nat.le_of_ble_eq_true rfl) (Nat.le_of_ble_eq_true rfl) (by decide) (by decide) (c_shareOfLeg (i := 2) hfa hT htn htv (fm := fm) (by omega) (by omega)) (fun _ _ e3 => ?_)
  cases e3
  refine x_iaddN (a := ((tv (fm + 1 + 6 + 0)) + (tv (fm + 1 + 6 + 1)))) (b := (tv (fm + 1 + 6 + 2))) dX11_sharesOfLeg_19 ?_
  exact x_iret dX11_sharesOfLeg_20 rfl rfl

theorem jgH_le {tn : Nat} {tv : Nat → Nat} {fm i : Nat} (htv : ∀ j, j < tn → tv j < 256) (h : fm + 10 ≤ tn) (hi : i < 3) : jgH tv fm i < 65536 := by
  have h1 := htv (fm + 1 + 2 * i) (by omega)
  have h2 := htv (fm + 2 + 2 * i) (by omega)
  unfold jgH; omega
theorem jgS_le {tn : Nat} {tv : Nat → Nat} {fm : Nat} (htv : ∀ j, j < tn → tv j < 256) (h : fm + 10 ≤ tn) : jgS tv fm < 768 := by
  have h1 := htv (fm + 1 + 6 + 0) (by omega)
  have h2 := htv (fm + 1 + 6 + 1) (by omega)
  have h3 := htv (fm + 1 + 6 + 2) (by omega)
  unfold jgS; omega

set_option maxRecDepth 100000 in
set_option maxHeartbeats 4000000 in
theorem l_legsIn {G : GT} {h : List PE} {n td : Nat} {fk br : Int32} {tn : Nat} {tv : Nat → Nat} (hfa : FaR h n td fk br) (hT : TpR h tn tv) (htn : tn ≤ 640) (htv : ∀ j, j < tn → tv j < 256) {fm : Nat} {Q : OT → Prop} (hfm : fm + 10 ≤ tn) : ∀ (m i : Nat), 3 - i = m → i ≤ 3 → (hgOk tv fm m i = true → X (NF G) G mX11_tapeTellsLegs 3 64 105 [(1, .int (nI fm)), (0, .ref 3)] [] h Q) → (hgOk tv fm m i = false → Q (some (.int 0), h)) → X (NF G) G mX11_tapeTellsLegs 3 64 80 [(2, .int (nI i)), (1, .int (nI fm)), (0, .ref 3)] [] h Q := by
  have f3 : h[3]? = some (cO 11 [.ref 4, .ref 6, .ref 15, .ref 16, .ref 21, .ref 25, .ref 32, .ref 35, .int (nI n), .int (nI td), .int fk, .int br]) := hfa
  obtain ⟨tb, f4, f5, e5⟩ := id hT
  intro m
  induction m with
  | zero =>
    intro i hm hi KT KF
    refine x_iload_n dX11_tapeTellsLegs_80 0 rfl ?_
    refine x_iconst (v := 3) dX11_tapeTellsLegs_81 (by decide) ?_
    refine x_icmp_geN (tgt := 105) (a := i) (b := 3) (by omega) (by omega) dX11_tapeTellsLegs_82 (by decide) (fun c_82 => ?_) (fun c_82 => absurd (by omega) c_82)
    refine x_perm [1, 2] rfl ?_
    exact KT rfl
  | succ m ih =>
    intro i hm hi KT KF
    have jh := jgH_le (i := i) htv hfm (by omega)
    refine x_iload_n dX11_tapeTellsLegs_80 0 rfl ?_
    refine x_iconst (v := 3) dX11_tapeTellsLegs_81 (by decide) ?_
    refine x_icmp_geN (tgt := 105) (a := i) (b := 3) (by omega) (by omega) dX11_tapeTellsLegs_82 (by decide) (fun c_82 => absurd c_82 (by omega)) (fun c_82 => ?_)
    refine x_aload_n dX11_tapeTellsLegs_85 2 rfl ?_
    refine x_iload_n dX11_tapeTellsLegs_86 1 rfl ?_
    refine x_iload_n dX11_tapeTellsLegs_87 0 rfl ?_
    refine x_callV (rf' := 1) (rl' := 21) [.int (nI fm), .int (nI i)] [] dX11_tapeTellsLegs_88 vX11_303 Y_X11_heightOfLeg f3 (by decide) rfl rfl (Nat.le_of_ble_eq_true rfl) (Nat.le_of_ble_eq_true rfl) (by decide) (by decide) (c_heightOfLeg hfa hT htn htv hfm (by omega)) (fun _ _ q1 => ?_)
    cases q1
    refine x_callS (rf' := 0) (rl' := 0) [.int (nI (jgH tv fm i))] [] dX11_tapeTellsLegs_91 vX11_129 Y_X11_isHeight rfl rfl (Nat.le_of_ble_eq_true rfl) (Nat.le_of_ble_eq_true rfl) (by decide) (by decide) c_isHeight (fun _ _ q1 => ?_)
    cases q1
    by_cases hj : jgH tv fm i ≤ 30000
    · rw [if_neg (fun q => q.elim (nI_pos (by omega)) (fun q => absurd ((nI_ltI (a := 30000) (by decide) (by omega)).mp q) (by omega)))]
      refine x_if_ne (tgt := 99) dX11_tapeTellsLegs_94 (by decide) (fun c_94 => ?_) (fun c_94 => absurd c_94 (by decide))
      refine x_iincN (lv2 := [(2, .int (nI (i + 1))), (1, .int (nI fm)), (0, .ref 3)]) dX11_tapeTellsLegs_99 0 rfl (by decide) rfl ?_
      refine x_goto (tgt := 80) dX11_tapeTellsLegs_102 (by decide) ?_
      refine x_perm [0, 1, 2] rfl ?_
      exact ih (i + 1) (by omega) (by omega) (fun q => KT (by rw [hgOk, decide_eq_true hj, Bool.true_and]; exact q)) (fun q => KF (by rw [hgOk, decide_eq_true hj, Bool.true_and]; exact q))
    · rw [if_pos (show nI (jgH tv fm i) < 0 ∨ (30000 : Int32) < nI (jgH tv fm i) from Or.inr ((nI_ltI (a := 30000) (by decide) (by omega)).mpr (by omega)))]
      refine x_if_ne (tgt := 99) dX11_tapeTellsLegs_94 (by decide) (fun c_94 => absurd (by decide) c_94) (fun c_94 => ?_)
      refine x_iconst (v := 0) dX11_tapeTellsLegs_97 (by decide) ?_
      exact x_zret dX11_tapeTellsLegs_98 rfl rfl (KF (by rw [hgOk, decide_eq_false hj, Bool.false_and]))

set_option maxRecDepth 100000 in
set_option maxHeartbeats 4000000 in
theorem l_legs {G : GT} {h : List PE} {n td : Nat} {fk br : Int32} {tn : Nat} {tv : Nat → Nat} (hfa : FaR h n td fk br) (hT : TpR h tn tv) (htn : tn ≤ 640) (htv : ∀ j, j < tn → tv j < 256) (h10 : tn % 10 = 0) : ∀ (m fm : Nat), tn - fm = 10 * m → fm ≤ tn → X (NF G) G mX11_tapeTellsLegs 3 64 42 [(1, .int (nI fm)), (0, .ref 3)] [] h (fun o => o = (some (.int (if legsOk tv m fm = true then 1 else 0)), h)) := by
  have f3 : h[3]? = some (cO 11 [.ref 4, .ref 6, .ref 15, .ref 16, .ref 21, .ref 25, .ref 32, .ref 35, .int (nI n), .int (nI td), .int fk, .int br]) := hfa
  obtain ⟨tb, f4, f5, e5⟩ := id hT
  intro m
  induction m with
  | zero =>
    intro fm hm hf
    refine x_iload_n dX11_tapeTellsLegs_42 0 rfl ?_
    refine x_aload_n dX11_tapeTellsLegs_43 1 rfl ?_
    refine x_get (v := .ref 4) dX11_tapeTellsLegs_44 fX11_10 f3 (by decide) rfl ?_
    refine x_get (v := .int (nI tn)) dX11_tapeTellsLegs_47 fX11_72 f4 (by decide) rfl ?_
    refine x_icmp_geN (tgt := 111) (a := fm) (b := tn) (by omega) (by omega) dX11_tapeTellsLegs_50 (by decide) (fun c_50 => ?_) (fun c_50 => absurd (by omega) c_50)
    refine x_iconst (v := 1) dX11_tapeTellsLegs_111 (by decide) ?_
    exact x_zret dX11_tapeTellsLegs_112 rfl rfl rfl
  | succ m ih =>
    intro fm hm hf
    have js := jgS_le htv (show fm + 10 ≤ tn by omega)
    have jb := htv fm (by omega)
    refine x_iload_n dX11_tapeTellsLegs_42 0 rfl ?_
    refine x_aload_n dX11_tapeTellsLegs_43 1 rfl ?_
    refine x_get (v := .ref 4) dX11_tapeTellsLegs_44 fX11_10 f3 (by decide) rfl ?_
    refine x_get (v := .int (nI tn)) dX11_tapeTellsLegs_47 fX11_72 f4 (by decide) rfl ?_
    refine x_icmp_geN (tgt := 111) (a := fm) (b := tn) (by omega) (by omega) dX11_tapeTellsLegs_50 (by decide) (fun c_50 => absurd c_50 (by omega)) (fun c_50 => ?_)
    refine x_aload_n dX11_tapeTellsLegs_53 1 rfl ?_
    refine x_get (v := .ref 4) dX11_tapeTellsLegs_54 fX11_10 f3 (by decide) rfl ?_
    refine x_iload_n dX11_tapeTellsLegs_57 0 rfl ?_
    refine x_callV (rf' := 0) (rl' := 0) [.int (nI fm)] [] dX11_tapeTellsLegs_58 vX11_176 Y_X8_byteAt f4 (by decide) rfl rfl (Nat.le_of_ble_eq_true rfl) (Nat.le_of_ble_eq_true rfl) (by decide) (by decide) (c_byteL (d := fm) hT htn (by omega)) (fun _ _ e1 => ?_)
    cases e1
    have tb2 := htv fm (by omega)
    refine x_callS (rf' := 0) (rl' := 0) [.int (nI (tv fm))] [] dX11_tapeTellsLegs_61 vX11_213 Y_X11_isSide rfl rfl (Nat.le_of_ble_eq_true rfl) (Nat.le_of_ble_eq_true rfl) (by decide) (by decide) c_isSide (fun _ _ q1 => ?_)
    cases q1
    by_cases hs : tv fm < 6
    · rw [if_neg (fun q => q.elim (nI_pos (by omega)) (fun q => absurd ((nI_leI (a := 6) (by decide) (by omega)).mp q) (by omega)))]
      refine x_if_eq (tgt := 76) dX11_tapeTellsLegs_64 (by decide) (fun c_64 => absurd c_64 (by decide)) (fun c_64 => ?_)
      refine x_aload_n dX11_tapeTellsLegs_67 1 rfl ?_
      refine x_iload_n dX11_tapeTellsLegs_68 0 rfl ?_
      refine x_callV (rf' := 2) (rl' := 43) [.int (nI fm)] [] dX11_tapeTellsLegs_69 vX11_249 Y_X11_sharesOfLeg f3 (by decide) rfl rfl (Nat.le_of_ble_eq_true rfl) (Nat.le_of_ble_eq_true rfl) (by decide) (by decide) (c_sharesOfLeg hfa hT htn htv (fm := fm) (by omega)) (fun _ _ q3 => ?_)
      cases q3
      refine x_iconst (v := 1) dX11_tapeTellsLegs_72 (by decide) ?_
      refine x_icmp_geN (tgt := 78) (a := (jgS tv fm)) (b := 1) (by omega) (by omega) dX11_tapeTellsLegs_73 (by decide) (fun c_73 => ?_) (fun c_73 => ?_)
      · refine x_iconst (v := 0) dX11_tapeTellsLegs_78 (by decide) ?_
        refine x_istore_n (lv2 := [(2, .int 0), (1, .int (nI fm)), (0, .ref 3)]) dX11_tapeTellsLegs_79 (by decide) rfl ?_
        refine x_perm [0, 1, 2] rfl ?_
        refine l_legsIn hfa hT htn htv (by omega) 3 0 rfl (by omega) (fun hg => ?_) (fun hg => ?_)
        · refine x_iinc (lv2 := [(1, .int (nI (fm + 10))), (0, .ref 3)]) dX11_tapeTellsLegs_105 0 rfl (nI_add fm 10) (by decide) rfl ?_
          refine x_goto (tgt := 42) dX11_tapeTellsLegs_108 (by decide) ?_
          refine x_perm [0, 1] rfl ?_
          exact (ih (fm + 10) (by omega) (by omega)).weaken (fun o ho => by rw [ho, legsOk, show legOk tv fm = true from by (unfold legOk; rw [hg, decide_eq_true (by omega), Bool.and_true]), Bool.true_and])
        · rw [legsOk, show legOk tv fm = false from by (unfold legOk; rw [hg, Bool.and_false])]; rfl
      · refine x_iconst (v := 0) dX11_tapeTellsLegs_76 (by decide) ?_
        exact x_zret dX11_tapeTellsLegs_77 rfl rfl (by rw [legsOk, show legOk tv fm = false from by (unfold legOk; rw [decide_eq_false (by omega), Bool.false_and])]; rfl)
    · rw [if_pos (show nI (tv fm) < 0 ∨ (6 : Int32) ≤ nI (tv fm) from Or.inr ((nI_leI (a := 6) (by decide) (by omega)).mpr (by omega)))]
      refine x_if_eq (tgt := 76) dX11_tapeTellsLegs_64 (by decide) (fun c_64 => ?_) (fun c_64 => absurd (by decide) c_64)
      refine x_iconst (v := 0) dX11_tapeTellsLegs_76 (by decide) ?_
      exact x_zret dX11_tapeTellsLegs_77 rfl rfl (by rw [legsOk, show legOk tv fm = false from by (unfold legOk; rw [decide_eq_false (by omega), Bool.false_and])]; rfl)

set_option maxRecDepth 100000 in
set_option maxHeartbeats 4000000 in
theorem c_tellsLegs {G : GT} {h : List PE} {n td : Nat} {fk br : Int32} {tn : Nat} {tv : Nat → Nat} (hfa : FaR h n td fk br) (hT : TpR h tn tv) (htn : tn ≤ 640) (htv : ∀ j, j < tn → tv j < 256)  : CT G mX11_tapeTellsLegs 3 64 [.ref 3] h (fun o => o = (some (.int (if jgOk tn tv then 1 else 0)), h)) := by
  have f3 : h[3]? = some (cO 11 [.ref 4, .ref 6, .ref 15, .ref 16, .ref 21, .ref 25, .ref 32, .ref 35, .int (nI n), .int (nI td), .int fk, .int br]) := hfa
  obtain ⟨tb, f4, f5, e5⟩ := id hT
  show X (NF G) G mX11_tapeTellsLegs 3 64 0 [(0, .ref 3)] [] h _
  refine x_aload_n dX11_tapeTellsLegs_0 0 rfl ?_
  refine x_get (v := .ref 4) dX11_tapeTellsLegs_1 fX11_10 f3 (by decide) rfl ?_
  refine x_get (v := .int (nI tn)) dX11_tapeTellsLegs_4 fX11_72 f4 (by decide) rfl ?_
  refine x_bipush (v := 10) dX11_tapeTellsLegs_7 (by decide) ?_
  refine x_icmp_ltN (tgt := 38) (a := tn) (b := 10) (by omega) (by omega) dX11_tapeTellsLegs_9 (by decide) (fun c_9 => ?_) (fun c_9 => ?_)
  · refine x_iconst (v := 0) dX11_tapeTellsLegs_38 (by decide) ?_
    exact x_zret dX11_tapeTellsLegs_39 rfl rfl (by rw [if_neg (fun q : jgOk tn tv => by have q1 := q.1; have q2 := q.2.1; have q3 := q.2.2.1; omega)])
  · refine x_aload_n dX11_tapeTellsLegs_12 0 rfl ?_
    refine x_get (v := .ref 4) dX11_tapeTellsLegs_13 fX11_10 f3 (by decide) rfl ?_
    refine x_get (v := .int (nI tn)) dX11_tapeTellsLegs_16 fX11_72 f4 (by decide) rfl ?_
    refine x_sipush (v := 400) dX11_tapeTellsLegs_19 (by decide) ?_
    refine x_icmp_gtN (tgt := 38) (a := tn) (b := 400) (by omega) (by omega) dX11_tapeTellsLegs_22 (by decide) (fun c_22 => ?_) (fun c_22 => ?_)
    · refine x_iconst (v := 0) dX11_tapeTellsLegs_38 (by decide) ?_
      exact x_zret dX11_tapeTellsLegs_39 rfl rfl (by rw [if_neg (fun q : jgOk tn tv => by have q1 := q.1; have q2 := q.2.1; have q3 := q.2.2.1; omega)])
    · refine x_aload_n dX11_tapeTellsLegs_25 0 rfl ?_
      refine x_get (v := .ref 4) dX11_tapeTellsLegs_26 fX11_10 f3 (by decide) rfl ?_
      refine x_get (v := .int (nI tn)) dX11_tapeTellsLegs_29 fX11_72 f4 (by decide) rfl ?_
      refine x_bipush (v := 10) dX11_tapeTellsLegs_32 (by decide) ?_
      refine x_iremN (a := tn) (b := 10) (by omega) (by omega) (by omega) dX11_tapeTellsLegs_34 ?_
      refine x_if_eqN (tgt := 40) (a := (tn % 10)) (by omega) dX11_tapeTellsLegs_35 (by decide) (fun c_35 => ?_) (fun c_35 => ?_)
      · refine x_iconst (v := 0) dX11_tapeTellsLegs_40 (by decide) ?_
        refine x_istore_n (lv2 := [(1, .int 0), (0, .ref 3)]) dX11_tapeTellsLegs_41 (by decide) rfl ?_
        refine x_perm [0, 1] rfl ?_
        refine (l_legs hfa hT htn htv (by omega) (tn / 10) 0 (by omega) (by omega)).weaken (fun o ho => ?_)
        rw [ho, ite_iff (show legsOk tv (tn / 10) 0 = true ↔ jgOk tn tv from ⟨fun q => ⟨by omega, by omega, by omega, q⟩, fun q => q.2.2.2⟩)]
      · refine x_iconst (v := 0) dX11_tapeTellsLegs_38 (by decide) ?_
        exact x_zret dX11_tapeTellsLegs_39 rfl rfl (by rw [if_neg (fun q : jgOk tn tv => by have q1 := q.1; have q2 := q.2.1; have q3 := q.2.2.1; omega)])

set_option maxRecDepth 100000 in
set_option maxHeartbeats 4000000 in
theorem l_held {G : GT} {h : List PE} {n td : Nat} {fk br : Int32} {tn : Nat} {tv : Nat → Nat} (hfa : FaR h n td fk br) (hT : TpR h tn tv) (htn : tn ≤ 640) (htv : ∀ j, j < tn → tv j < 256) {rec : Nat → Int32} {c : Nat × Nat × Nat × Nat} {k sd fm ta : Nat} {fq : Nat → Nat} (W : WFk rec c) (hk : k < c.2.1) (hsd : sd < 6) (L : Laid h rec (164 + 24 * k) sd 100) (hTh : ThingAt h rec (164 + 24 * k) fq ta) (hfm : fm + 10 ≤ tn) : ∀ (m i acc : Nat), 3 - i = m → i ≤ 3 → acc ≤ 256 * i → X (NF G) G mX11_heldSharesOfLeg 4 90 5 [(4, .int (nI i)), (3, .int (nI acc)), (0, .ref 3), (1, .ref ta), (2, .int (nI fm))] [] h (fun o => o = (some (.int (nI (acc + hdF (fun i => HO rec (164 + 24 * k) sd 100 (rec (164 + 24 * k)) (nI (jgH tv fm i)) (rec (164 + 24 * k + 4))) (fun i => tv (fm + 1 + 6 + i)) m i))), h)) := by
  have f3 : h[3]? = some (cO 11 [.ref 4, .ref 6, .ref 15, .ref 16, .ref 21, .ref 25, .ref 32, .ref 35, .int (nI n), .int (nI td), .int fk, .int br]) := hfa
  obtain ⟨tb, f4, f5, e5⟩ := id hT
  obtain ⟨frg, pug, svg, g21, -⟩ := id L
  have hta := hTh.1
  intro m
  induction m with
  | zero =>
    intro i acc hm hi ha
    refine x_iload dX11_heldSharesOfLeg_5 0 rfl ?_
    refine x_iconst (v := 3) dX11_heldSharesOfLeg_7 (by decide) ?_
    refine x_icmp_geN (tgt := 45) (a := i) (b := 3) (by omega) (by omega) dX11_heldSharesOfLeg_8 (by decide) (fun c_8 => ?_) (fun c_8 => absurd (by omega) c_8)
    refine x_iload_n dX11_heldSharesOfLeg_45 1 rfl ?_
    exact x_iret dX11_heldSharesOfLeg_46 rfl rfl
  | succ m ih =>
    intro i acc hm hi ha
    have hb := htv (fm + 1 + 6 + i) (by omega)
    refine x_iload dX11_heldSharesOfLeg_5 0 rfl ?_
    refine x_iconst (v := 3) dX11_heldSharesOfLeg_7 (by decide) ?_
    refine x_icmp_geN (tgt := 45) (a := i) (b := 3) (by omega) (by omega) dX11_heldSharesOfLeg_8 (by decide) (fun c_8 => absurd c_8 (by omega)) (fun c_8 => ?_)
    refine x_aload_n dX11_heldSharesOfLeg_11 2 rfl ?_
    refine x_get (v := .ref 21) dX11_heldSharesOfLeg_12 fX11_37 f3 (by decide) rfl ?_
    refine x_aload_n dX11_heldSharesOfLeg_15 3 rfl ?_
    refine x_aload_n dX11_heldSharesOfLeg_16 2 rfl ?_
    refine x_iload_n dX11_heldSharesOfLeg_17 4 rfl ?_
    refine x_iload dX11_heldSharesOfLeg_18 0 rfl ?_
    refine x_callV (rf' := 1) (rl' := 21) [.int (nI fm), .int (nI i)] [.ref ta, .ref 21] dX11_heldSharesOfLeg_20 vX11_303 Y_X11_heightOfLeg f3 (by decide) rfl rfl (Nat.le_of_ble_eq_true rfl) (Nat.le_of_ble_eq_true rfl) (by decide) (by decide) (c_heightOfLeg hfa hT htn htv hfm (by omega)) (fun _ _ q1 => ?_)
    cases q1
    refine x_callV (rf' := 3) (rl' := 67) [.ref ta, .int (nI (jgH tv fm i))] [] dX11_heldSharesOfLeg_23 vX11_148 Y_X4_holds g21 (by decide) rfl rfl (Nat.le_of_ble_eq_true rfl) (Nat.le_of_ble_eq_true rfl) (by decide) (by decide) (c_holdsL (kn := 100) L hTh W hk hsd (by omega)) (fun _ _ q1 => ?_)
    cases q1
    by_cases hO : HO rec (164 + 24 * k) sd 100 (rec (164 + 24 * k)) (nI (jgH tv fm i)) (rec (164 + 24 * k + 4)) = true
    · rw [show (nI 100 : Int32) = 100 from rfl, if_pos hO]
      refine x_if_eq (tgt := 39) dX11_heldSharesOfLeg_26 (by decide) (fun c_26 => absurd c_26 (by decide)) (fun c_26 => ?_)
      refine x_iload_n dX11_heldSharesOfLeg_29 1 rfl ?_
      refine x_aload_n dX11_heldSharesOfLeg_30 2 rfl ?_
      refine x_iload_n dX11_heldSharesOfLeg_31 4 rfl ?_
      refine x_iload dX11_heldSharesOfLeg_32 0 rfl ?_
      refine x_callV (rf' := 1) (rl' := 21) [.int (nI fm), .int (nI i)] [.int (nI acc)] dX11_heldSharesOfLeg_34 vX11_306 Y_X11_shareOfLeg f3 (by decide) rfl rfl (Nat.le_of_ble_eq_true rfl) (Nat.le_of_ble_eq_true rfl) (by decide) (by decide) (c_shareOfLeg hfa hT htn htv hfm (by omega)) (fun _ _ q2 => ?_)
      cases q2
      refine x_iaddN (a := acc) (b := (tv (fm + 1 + 6 + i))) dX11_heldSharesOfLeg_37 ?_
      refine x_istore_n (lv2 := [(3, .int (nI (acc + (tv (fm + 1 + 6 + i))))), (4, .int (nI i)), (0, .ref 3), (1, .ref ta), (2, .int (nI fm))]) dX11_heldSharesOfLeg_38 (by decide) rfl ?_
      refine x_iincN (lv2 := [(4, .int (nI (i + 1))), (3, .int (nI (acc + (tv (fm + 1 + 6 + i))))), (0, .ref 3), (1, .ref ta), (2, .int (nI fm))]) dX11_heldSharesOfLeg_39 1 rfl (by decide) rfl ?_
      refine x_goto (tgt := 5) dX11_heldSharesOfLeg_42 (by decide) ?_
      refine x_perm [0, 1, 2, 3, 4] rfl ?_
      exact (ih (i + 1) (acc + tv (fm + 1 + 6 + i)) (by omega) (by omega) (by omega)).weaken (fun o ho => by rw [ho, hdF, if_pos hO, Nat.add_assoc])
    · rw [show (nI 100 : Int32) = 100 from rfl, if_neg hO]
      refine x_if_eq (tgt := 39) dX11_heldSharesOfLeg_26 (by decide) (fun c_26 => ?_) (fun c_26 => absurd (by decide) c_26)
      refine x_iincN (lv2 := [(4, .int (nI (i + 1))), (3, .int (nI acc)), (0, .ref 3), (1, .ref ta), (2, .int (nI fm))]) dX11_heldSharesOfLeg_39 0 rfl (by decide) rfl ?_
      refine x_goto (tgt := 5) dX11_heldSharesOfLeg_42 (by decide) ?_
      refine x_perm [0, 1, 2, 3, 4] rfl ?_
      exact (ih (i + 1) acc (by omega) (by omega) (by omega)).weaken (fun o ho => by rw [ho, hdF, if_neg hO, Nat.zero_add])

set_option maxRecDepth 100000 in
set_option maxHeartbeats 4000000 in
theorem c_heldShares {G : GT} {h : List PE} {n td : Nat} {fk br : Int32} {tn : Nat} {tv : Nat → Nat} (hfa : FaR h n td fk br) (hT : TpR h tn tv) (htn : tn ≤ 640) (htv : ∀ j, j < tn → tv j < 256) {rec : Nat → Int32} {c : Nat × Nat × Nat × Nat} {k sd fm ta : Nat} {fq : Nat → Nat} (W : WFk rec c) (hk : k < c.2.1) (hsd : sd < 6) (L : Laid h rec (164 + 24 * k) sd 100) (hTh : ThingAt h rec (164 + 24 * k) fq ta) (hfm : fm + 10 ≤ tn)  : CT G mX11_heldSharesOfLeg 4 90 [.ref 3, .ref ta, .int (nI fm)] h (fun o => o = (some (.int (nI (hdF (fun i => HO rec (164 + 24 * k) sd 100 (rec (164 + 24 * k)) (nI (jgH tv fm i)) (rec (164 + 24 * k + 4))) (fun i => tv (fm + 1 + 6 + i)) 3 0))), h)) := by
  have f3 : h[3]? = some (cO 11 [.ref 4, .ref 6, .ref 15, .ref 16, .ref 21, .ref 25, .ref 32, .ref 35, .int (nI n), .int (nI td), .int fk, .int br]) := hfa
  obtain ⟨tb, f4, f5, e5⟩ := id hT
  obtain ⟨frg, pug, svg, g21, -⟩ := id L
  have hta := hTh.1
  show X (NF G) G mX11_heldSharesOfLeg 4 90 0 [(0, .ref 3), (1, .ref ta), (2, .int (nI fm))] [] h _
  refine x_iconst (v := 0) dX11_heldSharesOfLeg_0 (by decide) ?_
  refine x_istore_n (lv2 := [(3, .int 0), (0, .ref 3), (1, .ref ta), (2, .int (nI fm))]) dX11_heldSharesOfLeg_1 (by decide) rfl ?_
  refine x_iconst (v := 0) dX11_heldSharesOfLeg_2 (by decide) ?_
  refine x_istore (lv2 := [(4, .int 0), (3, .int 0), (0, .ref 3), (1, .ref ta), (2, .int (nI fm))]) dX11_heldSharesOfLeg_3 (by decide) rfl ?_
  refine x_perm [0, 1, 2, 3, 4] rfl ?_
  exact (l_held hfa hT htn htv W hk hsd L hTh hfm 3 0 0 rfl (by omega) (by omega)).weaken (fun o ho => by rw [ho, Nat.zero_add])

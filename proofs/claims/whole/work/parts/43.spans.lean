/-! ===== spans ===== -/
def wgN (wn w : Nat) : Nat := if wn * w / 100 < 1 then 1 else wn * w / 100
theorem wgN_one (wn w : Nat) : 1 ≤ wgN wn w := by unfold wgN; split <;> omega
theorem wgN_le {wn w : Nat} (h : wn ≤ 60000) (h2 : w ≤ 200) : wgN wn w ≤ 120000 := by
  have h3 : wn * w ≤ 60000 * 200 := Nat.mul_le_mul h h2
  unfold wgN; split <;> omega
theorem wgN_mono {wn w w' : Nat} (h : w ≤ w') : wgN wn w ≤ wgN wn w' := by
  have h3 : wn * w / 100 ≤ wn * w' / 100 := Nat.div_le_div_right (Nat.mul_le_mul_left _ h)
  unfold wgN; split <;> split <;> omega
theorem wgN_nI {wn w : Nat} (h : wn ≤ 60000) (h2 : w ≤ 200) : nI wn * nI w / 100 = nI (wn * w / 100) ∧ wn * w / 100 ≤ 120000 := by
  have h3 : wn * w ≤ 60000 * 200 := Nat.mul_le_mul h h2
  refine ⟨?_, by omega⟩
  rw [pk_mul, show (100 : Int32) = nI 100 from rfl, pk_div (by omega) (by omega) (by omega)]
/-- how many of the m weights from w on HOLD -/
def cntW (ho : Nat → Bool) : Nat → Nat → Nat
  | 0, _ => 0
  | m + 1, w => (if ho w then 1 else 0) + cntW ho m (w + 1)
theorem cntW_0 {ho : Nat → Bool} : ∀ (m w : Nat), (∀ j, w ≤ j → ho j = false) → cntW ho m w = 0
  | 0, _, _ => rfl
  | m + 1, w, h => by
    unfold cntW
    rw [h w (Nat.le_refl w), cntW_0 m (w + 1) (fun j hj => h j (by omega))]
    rfl
theorem cntW_le (ho : Nat → Bool) : ∀ (m w : Nat), cntW ho m w ≤ m
  | 0, _ => Nat.le_refl 0
  | m + 1, w => by
    have := cntW_le ho m (w + 1)
    unfold cntW
    split <;> omega
def cntC (f : Nat → Nat) : Nat → Nat → Nat
  | 0, _ => 0
  | m + 1, c => f c + cntC f m (c + 1)
/-- the squeeze; none at the END -/
noncomputable def sxN (rec : Nat → Int32) (t sd kn wn h : Nat) : Option Nat := match pdF rec t sd with
  | none => none
  | some k => sqN (stN rec (4 + 20 * k) kn) wn h (rec (t + 5 + 3 * sd + 1)).toNatClampNeg (rec (t + 5 + 3 * sd + 2)).toNatClampNeg 0 (cnR rec (4 + 20 * k))
theorem sxN_mono {rec : Nat → Int32} {t sd kn wn wn' h x : Nat} (hw : wn ≤ wn') (e : sxN rec t sd kn wn' h = some x) : ∃ z, z ≤ x ∧ sxN rec t sd kn wn h = some z := by
  unfold sxN at e ⊢
  cases q : pdF rec t sd with
  | none => rw [q] at e; cases e
  | some k =>
    rw [q] at e
    obtain ⟨z, -, h2, h3⟩ := sqN_mono hw (Nat.le_refl h) _ _ _ e
    exact ⟨z, h2, h3⟩
theorem sqN_skip {st : Nat → Nat} {w h T a : Nat} : ∀ (m x x0 : Nat), x ≤ x0 → x0 ≤ x + m → (∀ y, sqN st w h T a x m = some y → x0 ≤ y) → sqN st w h T a x m = sqN st w h T a x0 (x + m - x0)
  | 0, x, x0, h1, h2, _ => by rw [show x0 = x by omega, Nat.add_zero, Nat.sub_self]
  | m + 1, x, x0, h1, h2, h3 => by
    by_cases e : x = x0
    · subst e; rw [Nat.add_sub_cancel_left]
    · unfold sqN at h3
      rw [sqN]
      by_cases c : st x * a * T < 2 * w * (100 * h + x * T)
      · rw [if_pos c] at h3 ⊢
        rw [sqN_skip m (x + 1) x0 (by omega) (by omega) h3, show x + 1 + m - x0 = x + (m + 1) - x0 by omega]
      · rw [if_neg c] at h3
        have := h3 x rfl
        omega
theorem sx_from {rec : Nat → Int32} {c : Nat × Nat × Nat × Nat} {k sd kn wn h x0 : Nat} (W : WFk rec c) (hk : k < c.2.1) (hs : sd < 6) (hkn : kn ≤ 200) (hw2 : wn ≤ 200000) (hh : h ≤ 30000) (hx : x0 ≤ pcN rec (164 + 24 * k) sd) (h0 : ∀ x, sxN rec (164 + 24 * k) sd kn wn h = some x → x0 ≤ x) : sqF (stP rec (164 + 24 * k) sd (nI kn)) (nI wn).toInt64 (nI h).toInt64 (thR rec (164 + 24 * k) sd) (arR rec (164 + 24 * k) sd) x0 (pcN rec (164 + 24 * k) sd - x0) = (match sxN rec (164 + 24 * k) sd kn wn h with | none => -2 | some x => nI x) := by
  unfold sxN at h0 ⊢
  unfold pcN at hx ⊢
  unfold stP
  rcases pd_wf (W.2.2.2.2.2.2.2.2.2.1 k hk) W.2.1 hs with ⟨q, -⟩ | ⟨kf, q, hkf, -⟩
  · rw [q] at hx ⊢
    dsimp only at hx ⊢
    rw [Nat.zero_sub]
    rfl
  · obtain ⟨T, a, eT, ea, hT, ha, e1, e2⟩ := pad_nat2 W hk hs q
    rw [q] at hx h0 ⊢
    dsimp only at hx h0 ⊢
    rw [e1, e2, ← eT, ← ea]
    rw [← eT, ← ea] at h0
    rw [SQ_sqN (k := k) (sd := sd) W hkf hT ha hkn hw2 hh (by omega), sqN_skip _ 0 x0 (by omega) (by omega) h0, Nat.zero_add]
    rfl
theorem sx_bl {rec : Nat → Int32} {c : Nat × Nat × Nat × Nat} {k sd kn wn h : Nat} {mk : Int32} (W : WFk rec c) (hk : k < c.2.1) (hs : sd < 6) (hkn : kn ≤ 200) (hw : 1 ≤ wn) (hw2 : wn ≤ 200000) (hh : h ≤ 30000) : (sxN rec (164 + 24 * k) sd kn wn h = none → WI rec (164 + 24 * k) sd kn wn mk.toInt h = false) ∧ ∀ x, sxN rec (164 + 24 * k) sd kn wn h = some x → x < pcN rec (164 + 24 * k) sd ∧ (blF (cuP rec (164 + 24 * k) sd (nI kn) x) (arR rec (164 + 24 * k) sd) (nI wn).toInt64 ≤ mk ↔ WI rec (164 + 24 * k) sd kn wn mk.toInt h = true) := by
  unfold sxN pcN cuP WI bN
  rcases pd_wf (W.2.2.2.2.2.2.2.2.2.1 k hk) W.2.1 hs with ⟨q, -⟩ | ⟨kf, q, hkf, -⟩
  · rw [q]
    exact ⟨fun _ => rfl, fun x q => by cases q⟩
  · obtain ⟨T, a, eT, ea, hT, ha, e1, e2⟩ := pad_nat2 W hk hs q
    rw [q]
    dsimp only
    rw [e2, ← eT, ← ea]
    obtain ⟨np, P, U, ke, pr, w⟩ := W.2.2.2.2.2.2.2.2.1 kf hkf
    have w := w.canon
    refine ⟨fun e => by rw [e]; rfl, fun x e => ?_⟩
    have hx := sqN_lt _ _ _ e
    rw [e]
    refine ⟨by omega, ?_⟩
    have hb := blN_le (cuN rec (4 + 20 * kf) kn x) a wn
    rw [(cuN_is w hkn (x := x) (by omega)).1, nI_l (show wn < 2 ^ 31 by omega), blF_nat (cuN_is w hkn (x := x) (by omega)).2 ha hw (by omega)]
    show nI (blN (cuN rec (4 + 20 * kf) kn x) a wn) ≤ mk ↔ decide _ = true
    rw [Int32.le_iff_toInt_le, nI_toInt (by omega), decide_eq_true_iff]
noncomputable abbrev hoW (rec : Nat → Int32) (t sd kn wn : Nat) (hn : Nat) (w : Nat) : Bool := WI rec t sd kn (wgN wn w) (rec (t + 4)).toInt hn
abbrev tSp (tn : Nat) (tv : Nat → Nat) : Prop := tn = 4 ∧ (1 ≤ tv 0 ∧ tv 0 ≤ tv 1 ∧ tv 1 ≤ 200) ∧ 1 ≤ tv 2 ∧ tv 2 ≤ tv 3 ∧ tv 3 ≤ 200
noncomputable def spSp (rec : Nat → Int32) (c : Nat × Nat × Nat × Nat) (th sd hh : Int32) (tn : Nat) (tv : Nat → Nat) : Int32 := if bT c th ∨ bS sd ∨ bH hh ∨ ¬ tSp tn tv then -1 else nI (cntC (fun c => cntW (hoW rec (tO th) sd.toNatClampNeg c (rec (tO th)).toNatClampNeg hh.toNatClampNeg) (tv 1 + 1 - tv 0) (tv 0)) (tv 3 + 1 - tv 2) (tv 2))

theorem max_wg {v : Nat} (h : v ≤ 120000) : (if (1 : Int32) < nI v then nI v else 1) = nI (if v < 1 then 1 else v) := by
  by_cases q : 1 < v
  · rw [if_pos (show (1 : Int32) < nI v from (nI_ltI (a := 1) (by decide) (by omega)).mpr q), if_neg (by omega)]
  · rw [if_neg (fun z : (1 : Int32) < nI v => q ((nI_ltI (a := 1) (by decide) (by omega)).mp z))]
    split
    · rfl
    · rw [show v = 1 by omega]; rfl
theorem wi_later {rec : Nat → Int32} {c : Nat × Nat × Nat × Nat} {k sd kn wn hn w j : Nat} {mk : Int} (W : WFk rec c) (hk : k < c.2.1) (hs : sd < 6) (hkn : kn ≤ 200) (hw2 : wn ≤ 60000) (hh : hn ≤ 30000) (q : sxN rec (164 + 24 * k) sd kn (wgN wn w) hn = none) (hj : w ≤ j) : WI rec (164 + 24 * k) sd kn (wgN wn j) mk hn = false := by
  have h1 : sxN rec (164 + 24 * k) sd kn (wgN wn j) hn = none := by
    cases e : sxN rec (164 + 24 * k) sd kn (wgN wn j) hn with
    | none => rfl
    | some x =>
      obtain ⟨z, -, hz⟩ := sxN_mono (wgN_mono (wn := wn) hj) e
      rw [q] at hz; cases hz
  unfold sxN at h1
  unfold WI bN
  cases e : pdF rec (164 + 24 * k) sd with
  | none => rfl
  | some kf =>
    rw [e] at h1
    dsimp only at h1 ⊢
    rw [h1]
    rfl

set_option maxRecDepth 100000 in
set_option maxHeartbeats 4000000 in
theorem l_weights {G : GT} {h : List PE} {n td : Nat} {fk br : Int32} {rec : Nat → Int32} {c : Nat × Nat × Nat × Nat} {k sd kn wn hn ta w1 : Nat} {fq : Nat → Nat} (W : WFk rec c) (hk : k < c.2.1) (hsd : sd < 6) (hkn : kn ≤ 200) (hw : rec (164 + 24 * k) = nI wn) (hw0 : 1 ≤ wn) (hw2 : wn ≤ 60000) (hh : hn ≤ 30000) (h200 : w1 ≤ 200) (hfa : FaR h n td fk br) (L : Laid h rec (164 + 24 * k) sd (nI kn)) (hT : ThingAt h rec (164 + 24 * k) fq ta) : ∀ (m w x0 held : Nat), w1 + 1 - w = m → w ≤ w1 + 1 → held + m ≤ 1000 → x0 ≤ pcN rec (164 + 24 * k) sd → (∀ x, sxN rec (164 + 24 * k) sd kn (wgN wn w) hn = some x → x0 ≤ x) → X (NF G) G mX11_weightsThatHold 2 45 9 [(7, .int (nI w)), (6, .int (nI x0)), (5, .int (nI held)), (0, .ref 3), (1, .ref ta), (2, .int (nI hn)), (4, .int (nI w1))] [] h (fun o => o = (some (.int (nI (held + cntW (hoW rec (164 + 24 * k) sd kn wn hn) m w))), h)) := by
  have f3 : h[3]? = some (cO 11 [.ref 4, .ref 6, .ref 15, .ref 16, .ref 21, .ref 25, .ref 32, .ref 35, .int (nI n), .int (nI td), .int fk, .int br]) := hfa
  have hp := pcN_le (sd := sd) W (W.2.2.2.2.2.2.2.2.2.1 k hk) hsd
  obtain ⟨frg, pug, svg, g21, -⟩ := id L
  obtain ⟨hta, s1, s2, s3, s4, z1, z2, z3, z4, -, -, -, -, fta, -⟩ := id hT
  rw [hw] at fta
  intro m
  induction m with
  | zero =>
    intro w x0 held hm hwl hld hx0 hinv
    refine x_iload dX11_weightsThatHold_9 0 rfl ?_
    refine x_iload dX11_weightsThatHold_11 6 rfl ?_
    refine x_icmp_gtN (tgt := 83) (a := w) (b := w1) (by omega) (by omega) dX11_weightsThatHold_13 (by decide) (fun c_13 => ?_) (fun c_13 => absurd (by omega) c_13)
    refine x_iload dX11_weightsThatHold_83 2 rfl ?_
    exact x_iret dX11_weightsThatHold_85 rfl rfl
  | succ m ih =>
    intro w x0 held hm hwl hld hx0 hinv
    have e0 := wgN_nI (w := w) hw2 (by omega)
    have e1 := wgN_one wn w
    have e2 := wgN_le (w := w) hw2 (by omega)
    have e3 := nI_one e1 (show wgN wn w < 2 ^ 31 by omega)
    have e4 := sx_from W hk hsd hkn (show wgN wn w ≤ 200000 by omega) hh hx0 hinv
    obtain ⟨e5, e6⟩ := sx_bl (mk := rec (164 + 24 * k + 4)) W hk hsd hkn e1 (show wgN wn w ≤ 200000 by omega) hh
    refine x_iload dX11_weightsThatHold_9 0 rfl ?_
    refine x_iload dX11_weightsThatHold_11 6 rfl ?_
    refine x_icmp_gtN (tgt := 83) (a := w) (b := w1) (by omega) (by omega) dX11_weightsThatHold_13 (by decide) (fun c_13 => absurd c_13 (by omega)) (fun c_13 => ?_)
    refine x_iconst (v := 1) dX11_weightsThatHold_16 (by decide) ?_
    refine x_aload_n dX11_weightsThatHold_17 4 rfl ?_
    refine x_get (v := .int (nI wn)) dX11_weightsThatHold_18 fX11_135 fta (by omega) rfl ?_
    refine x_iload dX11_weightsThatHold_21 0 rfl ?_
    refine x_imul dX11_weightsThatHold_23 ?_
    refine x_bipush (v := 100) dX11_weightsThatHold_24 (by decide) ?_
    refine x_idiv dX11_weightsThatHold_26 (by decide) ?_
    rw [e0.1]
    refine x_callS (rf' := 0) (rl' := 0) [.int 1, .int (nI (wn * w / 100))] [] dX11_weightsThatHold_27 vX11_287 Y_J9_max_7cf53 rfl rfl (Nat.le_of_ble_eq_true rfl) (Nat.le_of_ble_eq_true rfl) (by decide) (by decide) c_max (fun _ _ q1 => ?_)
    cases q1
    rw [show (if (1 : Int32) < nI (wn * w / 100) then nI (wn * w / 100) else 1) = nI (wgN wn w) from max_wg e0.2]
    refine x_istore (lv2 := [(8, .int (nI (wgN wn w))), (7, .int (nI w)), (6, .int (nI x0)), (5, .int (nI held)), (0, .ref 3), (1, .ref ta), (2, .int (nI hn)), (4, .int (nI w1))]) dX11_weightsThatHold_30 (by decide) rfl ?_
    refine x_aload_n dX11_weightsThatHold_32 4 rfl ?_
    refine x_get (v := .ref 21) dX11_weightsThatHold_33 fX11_37 f3 (by decide) rfl ?_
    refine x_iload dX11_weightsThatHold_36 0 rfl ?_
    refine x_iload_n dX11_weightsThatHold_38 6 rfl ?_
    refine x_iload dX11_weightsThatHold_39 2 rfl ?_
    refine x_callV (rf' := 1) (rl' := 21) [.int (nI (wgN wn w)), .int (nI hn), .int (nI x0)] [] dX11_weightsThatHold_41 vX11_140 Y_X4_squeezeOf g21 (by decide) rfl rfl (Nat.le_of_ble_eq_true rfl) (Nat.le_of_ble_eq_true rfl) (by decide) (by decide) (c_squeezeOfL L hp (by omega)) (fun _ _ q1 => ?_)
    cases q1
    rw [e4]
    cases q : sxN rec (164 + 24 * k) sd kn (wgN wn w) hn with
    | none =>
      dsimp only
      refine x_istore (lv2 := [(6, .int (-2)), (8, .int (nI (wgN wn w))), (7, .int (nI w)), (5, .int (nI held)), (0, .ref 3), (1, .ref ta), (2, .int (nI hn)), (4, .int (nI w1))]) dX11_weightsThatHold_44 (by decide) rfl ?_
      refine x_iload dX11_weightsThatHold_46 0 rfl ?_
      refine x_bipush (v := (-2)) dX11_weightsThatHold_48 (by decide) ?_
      refine x_icmp_ne (tgt := 56) dX11_weightsThatHold_50 (by decide) (fun c_50 => absurd (by decide) c_50) (fun c_50 => ?_)
      refine x_iload dX11_weightsThatHold_53 3 rfl ?_
      exact x_iret dX11_weightsThatHold_55 rfl (by rw [cntW_0 (m + 1) w (fun j hj => wi_later W hk hsd hkn hw2 hh q hj), Nat.add_zero])
    | some x =>
      obtain ⟨hx, hbl⟩ := e6 x q
      dsimp only
      refine x_istore (lv2 := [(6, .int (nI x)), (8, .int (nI (wgN wn w))), (7, .int (nI w)), (5, .int (nI held)), (0, .ref 3), (1, .ref ta), (2, .int (nI hn)), (4, .int (nI w1))]) dX11_weightsThatHold_44 (by decide) rfl ?_
      refine x_iload dX11_weightsThatHold_46 0 rfl ?_
      refine x_bipush (v := (-2)) dX11_weightsThatHold_48 (by decide) ?_
      refine x_icmp_ne (tgt := 56) dX11_weightsThatHold_50 (by decide) (fun c_50 => ?_) (fun c_50 => absurd c_50 (nI_ne_m2 (show x < 2 ^ 31 by omega)))
      refine x_aload_n dX11_weightsThatHold_56 4 rfl ?_
      refine x_get (v := .ref 21) dX11_weightsThatHold_57 fX11_37 f3 (by decide) rfl ?_
      refine x_iload dX11_weightsThatHold_60 0 rfl ?_
      refine x_iload dX11_weightsThatHold_62 1 rfl ?_
      refine x_callV (rf' := 1) (rl' := 23) [.int (nI x), .int (nI (wgN wn w))] [] dX11_weightsThatHold_64 vX11_290 Y_X4_blowAt g21 (by decide) rfl rfl (Nat.le_of_ble_eq_true rfl) (Nat.le_of_ble_eq_true rfl) (by decide) (by decide) (c_blowAtL L hp hx e3.1 e3.2) (fun _ _ q1 => ?_)
      cases q1
      refine x_aload_n dX11_weightsThatHold_67 5 rfl ?_
      refine x_get (v := .int (rec (164 + 24 * k + 4))) dX11_weightsThatHold_68 fX11_183 fta (by omega) rfl ?_
      refine x_icmp_gt (tgt := 77) dX11_weightsThatHold_71 (by decide) (fun c_71 => ?_) (fun c_71 => ?_)
      · refine x_iincN (lv2 := [(7, .int (nI (w + 1))), (6, .int (nI x)), (8, .int (nI (wgN wn w))), (5, .int (nI held)), (0, .ref 3), (1, .ref ta), (2, .int (nI hn)), (4, .int (nI w1))]) dX11_weightsThatHold_77 2 rfl (by decide) rfl ?_
        refine x_goto (tgt := 9) dX11_weightsThatHold_80 (by decide) ?_
        refine x_perm [0, 1, 3, 4, 5, 6, 7] rfl ?_
        refine (ih (w + 1) x held (by omega) (by omega) (by omega) (by omega) (fun y hy => ?_)).weaken (fun o ho => ?_)
        · obtain ⟨z, hz, hz2⟩ := sxN_mono (wgN_mono (wn := wn) (show w ≤ w + 1 by omega)) hy
          rw [q] at hz2
          cases hz2
          exact hz
        · rw [ho, cntW, if_neg (fun z => absurd (hbl.mpr z) (Int32.not_le.mpr c_71)), Nat.zero_add]
      · refine x_iincN (lv2 := [(5, .int (nI (held + 1))), (6, .int (nI x)), (8, .int (nI (wgN wn w))), (7, .int (nI w)), (0, .ref 3), (1, .ref ta), (2, .int (nI hn)), (4, .int (nI w1))]) dX11_weightsThatHold_74 3 rfl (by decide) rfl ?_
        refine x_iincN (lv2 := [(7, .int (nI (w + 1))), (5, .int (nI (held + 1))), (6, .int (nI x)), (8, .int (nI (wgN wn w))), (0, .ref 3), (1, .ref ta), (2, .int (nI hn)), (4, .int (nI w1))]) dX11_weightsThatHold_77 3 rfl (by decide) rfl ?_
        refine x_goto (tgt := 9) dX11_weightsThatHold_80 (by decide) ?_
        refine x_perm [0, 2, 1, 4, 5, 6, 7] rfl ?_
        refine (ih (w + 1) x (held + 1) (by omega) (by omega) (by omega) (by omega) (fun y hy => ?_)).weaken (fun o ho => ?_)
        · obtain ⟨z, hz, hz2⟩ := sxN_mono (wgN_mono (wn := wn) (show w ≤ w + 1 by omega)) hy
          rw [q] at hz2
          cases hz2
          exact hz
        · rw [ho, cntW, if_pos (hbl.mp (Int32.not_lt.mp c_71)), Nat.add_assoc]

set_option maxRecDepth 100000 in
set_option maxHeartbeats 4000000 in
theorem c_weights {G : GT} {h : List PE} {n td : Nat} {fk br : Int32} {rec : Nat → Int32} {c : Nat × Nat × Nat × Nat} {k sd kn wn hn ta w0 w1 : Nat} {fq : Nat → Nat} (W : WFk rec c) (hk : k < c.2.1) (hsd : sd < 6) (hkn : kn ≤ 200) (hw : rec (164 + 24 * k) = nI wn) (hw0 : 1 ≤ wn) (hw2 : wn ≤ 60000) (hh : hn ≤ 30000) (h200 : w1 ≤ 200) (hfa : FaR h n td fk br) (L : Laid h rec (164 + 24 * k) sd (nI kn)) (hT : ThingAt h rec (164 + 24 * k) fq ta) (h01 : w0 ≤ w1)  : CT G mX11_weightsThatHold 2 45 [.ref 3, .ref ta, .int (nI hn), .int (nI w0), .int (nI w1)] h (fun o => o = (some (.int (nI (cntW (hoW rec (164 + 24 * k) sd kn wn hn) (w1 + 1 - w0) w0))), h)) := by
  have f3 : h[3]? = some (cO 11 [.ref 4, .ref 6, .ref 15, .ref 16, .ref 21, .ref 25, .ref 32, .ref 35, .int (nI n), .int (nI td), .int fk, .int br]) := hfa
  have hp := pcN_le (sd := sd) W (W.2.2.2.2.2.2.2.2.2.1 k hk) hsd
  obtain ⟨frg, pug, svg, g21, -⟩ := id L
  obtain ⟨hta, s1, s2, s3, s4, z1, z2, z3, z4, -, -, -, -, fta, -⟩ := id hT
  rw [hw] at fta
  show X (NF G) G mX11_weightsThatHold 2 45 0 [(0, .ref 3), (1, .ref ta), (2, .int (nI hn)), (3, .int (nI w0)), (4, .int (nI w1))] [] h _
  refine x_iconst (v := 0) dX11_weightsThatHold_0 (by decide) ?_
  refine x_istore (lv2 := [(5, .int 0), (0, .ref 3), (1, .ref ta), (2, .int (nI hn)), (3, .int (nI w0)), (4, .int (nI w1))]) dX11_weightsThatHold_1 (by decide) rfl ?_
  refine x_iconst (v := 0) dX11_weightsThatHold_3 (by decide) ?_
  refine x_istore (lv2 := [(6, .int 0), (5, .int 0), (0, .ref 3), (1, .ref ta), (2, .int (nI hn)), (3, .int (nI w0)), (4, .int (nI w1))]) dX11_weightsThatHold_4 (by decide) rfl ?_
  refine x_iload_n dX11_weightsThatHold_6 5 rfl ?_
  refine x_istore (lv2 := [(7, .int (nI w0)), (6, .int 0), (5, .int 0), (0, .ref 3), (1, .ref ta), (2, .int (nI hn)), (3, .int (nI w0)), (4, .int (nI w1))]) dX11_weightsThatHold_7 (by decide) rfl ?_
  refine x_perm [0, 1, 2, 3, 4, 5, 7] rfl ?_
  exact (l_weights W hk hsd hkn hw hw0 hw2 hh h200 hfa L hT (w1 + 1 - w0) w0 0 0 rfl (by omega) (by omega) (by omega) (fun x _ => Nat.zero_le x)).weaken (fun o ho => by rw [ho, Nat.zero_add])

theorem ite_iff {α : Type} {p q : Prop} [Decidable p] [Decidable q] {a b : α} (h : p ↔ q) : (if p then a else b) = if q then a else b := by
  by_cases z : q
  · rw [if_pos z, if_pos (h.mpr z)]
  · rw [if_neg z, if_neg (fun y => z (h.mp y))]
def okS (tv : Nat → Nat) : Nat → Nat → Bool
  | 0, _ => decide (tv 0 ≤ tv 1 ∧ tv 2 ≤ tv 3)
  | m + 1, i => decide (1 ≤ tv i ∧ tv i ≤ 200) && okS tv m (i + 1)
theorem okS_is {tn : Nat} {tv : Nat → Nat} (h : tn = 4) : (okS tv 4 0 = true) ↔ tSp tn tv := by
  unfold tSp
  simp only [okS, Bool.and_eq_true, decide_eq_true_iff, Nat.zero_add, Nat.reduceAdd]
  constructor <;> intro q <;> omega

set_option maxRecDepth 100000 in
set_option maxHeartbeats 4000000 in
theorem l_tellsSpans {G : GT} {h : List PE} {n td : Nat} {fk br : Int32} {tn : Nat} {tv : Nat → Nat} (hfa : FaR h n td fk br) (hT : TpR h tn tv) (htn : tn ≤ 640) (htv : ∀ j, j < tn → tv j < 256) (h4 : tn = 4) : ∀ (m i : Nat), 4 - i = m → i ≤ 4 → X (NF G) G mX11_tapeTellsSpans 1 21 15 [(1, .int (nI i)), (0, .ref 3)] [] h (fun o => o = (some (.int (if okS tv m i = true then 1 else 0)), h)) := by
  have f3 : h[3]? = some (cO 11 [.ref 4, .ref 6, .ref 15, .ref 16, .ref 21, .ref 25, .ref 32, .ref 35, .int (nI n), .int (nI td), .int fk, .int br]) := hfa
  obtain ⟨tb, f4, f5, e5⟩ := id hT
  intro m
  induction m with
  | zero =>
    intro i hm hi
    refine x_iload_n dX11_tapeTellsSpans_15 0 rfl ?_
    refine x_iconst (v := 4) dX11_tapeTellsSpans_16 (by decide) ?_
    refine x_icmp_geN (tgt := 54) (a := i) (b := 4) (by omega) (by omega) dX11_tapeTellsSpans_17 (by decide) (fun c_17 => ?_) (fun c_17 => absurd (by omega) c_17)
    refine x_aload_n dX11_tapeTellsSpans_54 1 rfl ?_
    refine x_get (v := .ref 4) dX11_tapeTellsSpans_55 fX11_10 f3 (by decide) rfl ?_
    refine x_iconst (v := 0) dX11_tapeTellsSpans_58 (by decide) ?_
    refine x_callV (rf' := 0) (rl' := 0) [.int 0] [] dX11_tapeTellsSpans_59 vX11_176 Y_X8_byteAt f4 (by decide) rfl rfl (Nat.le_of_ble_eq_true rfl) (Nat.le_of_ble_eq_true rfl) (by decide) (by decide) (c_byteL (d := 0) hT (by omega) (by omega)) (fun _ _ e1 => ?_)
    cases e1
    have tb2 := htv 0 (by omega)
    refine x_aload_n dX11_tapeTellsSpans_62 1 rfl ?_
    refine x_get (v := .ref 4) dX11_tapeTellsSpans_63 fX11_10 f3 (by decide) rfl ?_
    refine x_iconst (v := 1) dX11_tapeTellsSpans_66 (by decide) ?_
    refine x_callV (rf' := 0) (rl' := 0) [.int 1] [.int (nI (tv 0))] dX11_tapeTellsSpans_67 vX11_176 Y_X8_byteAt f4 (by decide) rfl rfl (Nat.le_of_ble_eq_true rfl) (Nat.le_of_ble_eq_true rfl) (by decide) (by decide) (c_byteL (d := 1) hT (by omega) (by omega)) (fun _ _ e3 => ?_)
    cases e3
    have tb4 := htv 1 (by omega)
    refine x_icmp_gtN (tgt := 96) (a := (tv 0)) (b := (tv 1)) (by omega) (by omega) dX11_tapeTellsSpans_70 (by decide) (fun c_70 => ?_) (fun c_70 => ?_)
    · refine x_iconst (v := 0) dX11_tapeTellsSpans_96 (by decide) ?_
      exact x_zret dX11_tapeTellsSpans_97 rfl rfl (by rw [if_neg (fun q => absurd (of_decide_eq_true q).1 (by omega))])
    · refine x_aload_n dX11_tapeTellsSpans_73 1 rfl ?_
      refine x_get (v := .ref 4) dX11_tapeTellsSpans_74 fX11_10 f3 (by decide) rfl ?_
      refine x_iconst (v := 2) dX11_tapeTellsSpans_77 (by decide) ?_
      refine x_callV (rf' := 0) (rl' := 0) [.int 2] [] dX11_tapeTellsSpans_78 vX11_176 Y_X8_byteAt f4 (by decide) rfl rfl (Nat.le_of_ble_eq_true rfl) (Nat.le_of_ble_eq_true rfl) (by decide) (by decide) (c_byteL (d := 2) hT (by omega) (by omega)) (fun _ _ e5 => ?_)
      cases e5
      have tb6 := htv 2 (by omega)
      refine x_aload_n dX11_tapeTellsSpans_81 1 rfl ?_
      refine x_get (v := .ref 4) dX11_tapeTellsSpans_82 fX11_10 f3 (by decide) rfl ?_
      refine x_iconst (v := 3) dX11_tapeTellsSpans_85 (by decide) ?_
      refine x_callV (rf' := 0) (rl' := 0) [.int 3] [.int (nI (tv 2))] dX11_tapeTellsSpans_86 vX11_176 Y_X8_byteAt f4 (by decide) rfl rfl (Nat.le_of_ble_eq_true rfl) (Nat.le_of_ble_eq_true rfl) (by decide) (by decide) (c_byteL (d := 3) hT (by omega) (by omega)) (fun _ _ e7 => ?_)
      cases e7
      have tb8 := htv 3 (by omega)
      refine x_icmp_gtN (tgt := 96) (a := (tv 2)) (b := (tv 3)) (by omega) (by omega) dX11_tapeTellsSpans_89 (by decide) (fun c_89 => ?_) (fun c_89 => ?_)
      · refine x_iconst (v := 0) dX11_tapeTellsSpans_96 (by decide) ?_
        exact x_zret dX11_tapeTellsSpans_97 rfl rfl (by rw [if_neg (fun q => absurd (of_decide_eq_true q).2 (by omega))])
      · refine x_iconst (v := 1) dX11_tapeTellsSpans_92 (by decide) ?_
        refine x_goto (tgt := 97) dX11_tapeTellsSpans_93 (by decide) ?_
        exact x_zret dX11_tapeTellsSpans_97 rfl rfl (by rw [if_pos (show okS tv 0 i = true from decide_eq_true ⟨by omega, by omega⟩)])
  | succ m ih =>
    intro i hm hi
    refine x_iload_n dX11_tapeTellsSpans_15 0 rfl ?_
    refine x_iconst (v := 4) dX11_tapeTellsSpans_16 (by decide) ?_
    refine x_icmp_geN (tgt := 54) (a := i) (b := 4) (by omega) (by omega) dX11_tapeTellsSpans_17 (by decide) (fun c_17 => absurd c_17 (by omega)) (fun c_17 => ?_)
    refine x_aload_n dX11_tapeTellsSpans_20 1 rfl ?_
    refine x_get (v := .ref 4) dX11_tapeTellsSpans_21 fX11_10 f3 (by decide) rfl ?_
    refine x_iload_n dX11_tapeTellsSpans_24 0 rfl ?_
    refine x_callV (rf' := 0) (rl' := 0) [.int (nI i)] [] dX11_tapeTellsSpans_25 vX11_176 Y_X8_byteAt f4 (by decide) rfl rfl (Nat.le_of_ble_eq_true rfl) (Nat.le_of_ble_eq_true rfl) (by decide) (by decide) (c_byteL (d := i) hT (by omega) (by omega)) (fun _ _ e1 => ?_)
    cases e1
    have tb2 := htv i (by omega)
    refine x_iconst (v := 1) dX11_tapeTellsSpans_28 (by decide) ?_
    refine x_icmp_ltN (tgt := 46) (a := (tv i)) (b := 1) (by omega) (by omega) dX11_tapeTellsSpans_29 (by decide) (fun c_29 => ?_) (fun c_29 => ?_)
    · refine x_iconst (v := 0) dX11_tapeTellsSpans_46 (by decide) ?_
      exact x_zret dX11_tapeTellsSpans_47 rfl rfl (by rw [if_neg (fun q => absurd (of_decide_eq_true (Bool.and_eq_true_iff.mp q).1).1 (by omega))])
    · refine x_aload_n dX11_tapeTellsSpans_32 1 rfl ?_
      refine x_get (v := .ref 4) dX11_tapeTellsSpans_33 fX11_10 f3 (by decide) rfl ?_
      refine x_iload_n dX11_tapeTellsSpans_36 0 rfl ?_
      refine x_callV (rf' := 0) (rl' := 0) [.int (nI i)] [] dX11_tapeTellsSpans_37 vX11_176 Y_X8_byteAt f4 (by decide) rfl rfl (Nat.le_of_ble_eq_true rfl) (Nat.le_of_ble_eq_true rfl) (by decide) (by decide) (c_byteL (d := i) hT (by omega) (by omega)) (fun _ _ e3 => ?_)
      cases e3
      have tb4 := htv i (by omega)
      refine x_sipush (v := 200) dX11_tapeTellsSpans_40 (by decide) ?_
      refine x_icmp_leN (tgt := 48) (a := (tv i)) (b := 200) (by omega) (by omega) dX11_tapeTellsSpans_43 (by decide) (fun c_43 => ?_) (fun c_43 => ?_)
      · refine x_iincN (lv2 := [(1, .int (nI (i + 1))), (0, .ref 3)]) dX11_tapeTellsSpans_48 0 rfl (by decide) rfl ?_
        refine x_goto (tgt := 15) dX11_tapeTellsSpans_51 (by decide) ?_
        refine x_perm [0, 1] rfl ?_
        refine (ih (i + 1) (by omega) (by omega)).weaken (fun o ho => ?_)
        rw [ho, okS, decide_eq_true (show 1 ≤ tv i ∧ tv i ≤ 200 by omega), Bool.true_and]
      · refine x_iconst (v := 0) dX11_tapeTellsSpans_46 (by decide) ?_
        exact x_zret dX11_tapeTellsSpans_47 rfl rfl (by rw [if_neg (fun q => absurd (of_decide_eq_true (Bool.and_eq_true_iff.mp q).1).2 (by omega))])

set_option maxRecDepth 100000 in
set_option maxHeartbeats 4000000 in
theorem c_tellsSpans {G : GT} {h : List PE} {n td : Nat} {fk br : Int32} {tn : Nat} {tv : Nat → Nat} (hfa : FaR h n td fk br) (hT : TpR h tn tv) (htn : tn ≤ 640) (htv : ∀ j, j < tn → tv j < 256)  : CT G mX11_tapeTellsSpans 1 21 [.ref 3] h (fun o => o = (some (.int (if tSp tn tv then 1 else 0)), h)) := by
  have f3 : h[3]? = some (cO 11 [.ref 4, .ref 6, .ref 15, .ref 16, .ref 21, .ref 25, .ref 32, .ref 35, .int (nI n), .int (nI td), .int fk, .int br]) := hfa
  obtain ⟨tb, f4, f5, e5⟩ := id hT
  show X (NF G) G mX11_tapeTellsSpans 1 21 0 [(0, .ref 3)] [] h _
  refine x_aload_n dX11_tapeTellsSpans_0 0 rfl ?_
  refine x_get (v := .ref 4) dX11_tapeTellsSpans_1 fX11_10 f3 (by decide) rfl ?_
  refine x_get (v := .int (nI tn)) dX11_tapeTellsSpans_4 fX11_72 f4 (by decide) rfl ?_
  refine x_iconst (v := 4) dX11_tapeTellsSpans_7 (by decide) ?_
  refine x_icmp_eqN (tgt := 13) (a := tn) (b := 4) (by omega) (by omega) dX11_tapeTellsSpans_8 (by decide) (fun c_8 => ?_) (fun c_8 => ?_)
  · refine x_iconst (v := 0) dX11_tapeTellsSpans_13 (by decide) ?_
    refine x_istore_n (lv2 := [(1, .int 0), (0, .ref 3)]) dX11_tapeTellsSpans_14 (by decide) rfl ?_
    refine x_perm [0, 1] rfl ?_
    refine (l_tellsSpans hfa hT htn htv c_8 4 0 rfl (by omega)).weaken (fun o ho => ?_)
    rw [ho, ite_iff (okS_is c_8)]
  · refine x_iconst (v := 0) dX11_tapeTellsSpans_11 (by decide) ?_
    exact x_zret dX11_tapeTellsSpans_12 rfl rfl (by rw [if_neg (fun q => c_8 q.1)])

set_option maxRecDepth 100000 in
set_option maxHeartbeats 4000000 in
theorem c_spansN1 {G : GT} {h : List PE} {n td : Nat} {dy : Nat → Int32} {rc : Nat → Nat → Int32} {ct : Nat → Nat × Nat × Nat × Nat} {fk br t : Int32} {th sd hh : Int32} (hfa : FaR h n td fk br) (hbk : BkR h n dy rc ct) (hn : n ≤ 20) (hcu : CuR h) (W : WFk (curR n dy rc t) (curC n dy ct t)) {tn : Nat} {tv : Nat → Nat} (hTp : TpR h tn tv) (htn : tn ≤ 640) (htv : ∀ j, j < tn → tv j < 256) (hs : bT (curC n dy ct t) th) : CT G mX11_spans 5 110 [.ref 3, .int th, .int sd, .int hh, .int t] h (fun o => o.1 = some (.int (spSp (curR n dy rc t) (curC n dy ct t) th sd hh tn tv)) ∧ TpR o.2 0 tv ∧ CuR o.2 ∧ Sm [4, 21, 22, 23, 24] h o.2) := by
  have f3 : h[3]? = some (cO 11 [.ref 4, .ref 6, .ref 15, .ref 16, .ref 21, .ref 25, .ref 32, .ref 35, .int (nI n), .int (nI td), .int fk, .int br]) := hfa
  obtain ⟨tb, f4, f5, e5⟩ := id hTp
  have sm4 : Sm [4] h h := Sm.rf
  show X (NF G) G mX11_spans 5 110 0 [(0, .ref 3), (1, .int th), (2, .int sd), (3, .int hh), (4, .int t)] [] h _
  refine x_aload_n dX11_spans_0 0 rfl ?_
  refine x_iload_n dX11_spans_1 1 rfl ?_
  refine x_iload_n dX11_spans_2 2 rfl ?_
  refine x_iload dX11_spans_3 4 rfl ?_
  refine x_callV (rf' := 4) (rl' := 86) [.int th, .int sd, .int t] [] dX11_spans_5 vX11_125 Y_X11_putOnPad f3 (by decide) rfl rfl (Nat.le_of_ble_eq_true rfl) (Nat.le_of_ble_eq_true rfl) (by decide) (by decide) (c_putOnPadN1 hfa hbk hn hs) (fun _ _ e1 => ?_)
  cases e1
  refine x_astoreN (lv2 := [(5, .null), (0, .ref 3), (1, .int th), (2, .int sd), (3, .int hh), (4, .int t)]) dX11_spans_8 (by decide) rfl ?_
  refine x_iconst (v := (-1)) dX11_spans_10 (by decide) ?_
  refine x_istore (lv2 := [(6, .int (-1)), (5, .null), (0, .ref 3), (1, .int th), (2, .int sd), (3, .int hh), (4, .int t)]) dX11_spans_11 (by decide) rfl ?_
  refine x_aloadN dX11_spans_13 1 rfl ?_
  refine x_ifnullN (tgt := 101) dX11_spans_15 (by decide) ?_
  refine x_aload_n dX11_spans_101 2 rfl ?_
  refine x_get (v := .ref 4) dX11_spans_102 fX11_10 f3 (by decide) rfl ?_
  refine x_iconst (v := 0) dX11_spans_105 (by decide) ?_
  refine x_put (fs2 := [.ref 5, .int 0]) dX11_spans_106 fX11_72 (Or.inl rfl) f4 (by decide) rfl rfl (Nat.le_of_ble_eq_true rfl) rfl (fun h1 a2 e3 l4 s5 => ?_)
  have f6 := (e3 3 (by decide)).trans f3
  have sm7 := Sm.put sm4 e3 l4 s5 (by decide)
  refine x_iload dX11_spans_109 0 rfl ?_
  exact x_iret dX11_spans_111 rfl ⟨by rw [spSp, if_pos (Or.inl hs)], ⟨tb, a2, sm7.at f5 (by decide), fun j hj => absurd hj (Nat.not_lt_zero j)⟩, hcu.kept (fun j hj => sm7.2.2 j (by revert j; decide)), sm7.wide (by decide)⟩

set_option maxRecDepth 100000 in
set_option maxHeartbeats 4000000 in
theorem c_spansN2 {G : GT} {h : List PE} {n td : Nat} {dy : Nat → Int32} {rc : Nat → Nat → Int32} {ct : Nat → Nat × Nat × Nat × Nat} {fk br t : Int32} {sd hh : Int32} {k : Nat} (hfa : FaR h n td fk br) (hbk : BkR h n dy rc ct) (hn : n ≤ 20) (hcu : CuR h) (W : WFk (curR n dy rc t) (curC n dy ct t)) {tn : Nat} {tv : Nat → Nat} (hTp : TpR h tn tv) (htn : tn ≤ 640) (htv : ∀ j, j < tn → tv j < 256) (hk : k < (curC n dy ct t).2.1) (hs : bS sd) : CT G mX11_spans 5 110 [.ref 3, .int (nI k), .int sd, .int hh, .int t] h (fun o => o.1 = some (.int (spSp (curR n dy rc t) (curC n dy ct t) (nI k) sd hh tn tv)) ∧ TpR o.2 0 tv ∧ CuR o.2 ∧ Sm [4, 21, 22, 23, 24] h o.2) := by
  have f3 : h[3]? = some (cO 11 [.ref 4, .ref 6, .ref 15, .ref 16, .ref 21, .ref 25, .ref 32, .ref 35, .int (nI n), .int (nI td), .int fk, .int br]) := hfa
  obtain ⟨tb, f4, f5, e5⟩ := id hTp
  have sm4 : Sm [4] h h := Sm.rf
  show X (NF G) G mX11_spans 5 110 0 [(0, .ref 3), (1, .int (nI k)), (2, .int sd), (3, .int hh), (4, .int t)] [] h _
  refine x_aload_n dX11_spans_0 0 rfl ?_
  refine x_iload_n dX11_spans_1 1 rfl ?_
  refine x_iload_n dX11_spans_2 2 rfl ?_
  refine x_iload dX11_spans_3 4 rfl ?_
  refine x_callV (rf' := 4) (rl' := 86) [.int (nI k), .int sd, .int t] [] dX11_spans_5 vX11_125 Y_X11_putOnPad f3 (by decide) rfl rfl (Nat.le_of_ble_eq_true rfl) (Nat.le_of_ble_eq_true rfl) (by decide) (by decide) (c_putOnPadN2 hfa hbk hn W hk hs) (fun _ _ e1 => ?_)
  cases e1
  refine x_astoreN (lv2 := [(5, .null), (0, .ref 3), (1, .int (nI k)), (2, .int sd), (3, .int hh), (4, .int t)]) dX11_spans_8 (by decide) rfl ?_
  refine x_iconst (v := (-1)) dX11_spans_10 (by decide) ?_
  refine x_istore (lv2 := [(6, .int (-1)), (5, .null), (0, .ref 3), (1, .int (nI k)), (2, .int sd), (3, .int hh), (4, .int t)]) dX11_spans_11 (by decide) rfl ?_
  refine x_aloadN dX11_spans_13 1 rfl ?_
  refine x_ifnullN (tgt := 101) dX11_spans_15 (by decide) ?_
  refine x_aload_n dX11_spans_101 2 rfl ?_
  refine x_get (v := .ref 4) dX11_spans_102 fX11_10 f3 (by decide) rfl ?_
  refine x_iconst (v := 0) dX11_spans_105 (by decide) ?_
  refine x_put (fs2 := [.ref 5, .int 0]) dX11_spans_106 fX11_72 (Or.inl rfl) f4 (by decide) rfl rfl (Nat.le_of_ble_eq_true rfl) rfl (fun h1 a2 e3 l4 s5 => ?_)
  have f6 := (e3 3 (by decide)).trans f3
  have sm7 := Sm.put sm4 e3 l4 s5 (by decide)
  refine x_iload dX11_spans_109 0 rfl ?_
  exact x_iret dX11_spans_111 rfl ⟨by rw [spSp, if_pos (Or.inr (Or.inl hs))], ⟨tb, a2, sm7.at f5 (by decide), fun j hj => absurd hj (Nat.not_lt_zero j)⟩, hcu.kept (fun j hj => sm7.2.2 j (by revert j; decide)), sm7.wide (by decide)⟩

set_option maxRecDepth 100000 in
set_option maxHeartbeats 4000000 in
theorem l_spans {G : GT} {n td : Nat} {dy : Nat → Int32} {rc : Nat → Nat → Int32} {ct : Nat → Nat × Nat × Nat × Nat} {fk br t : Int32} {k sd wn hn2 ta : Nat} {fq : Nat → Nat} {tn : Nat} {tv : Nat → Nat} (W : WFk (curR n dy rc t) (curC n dy ct t)) (hk : k < (curC n dy ct t).2.1) (hsd : sd < 6) (hw : (curR n dy rc t) (164 + 24 * k) = nI wn) (hw0 : 1 ≤ wn) (hw2 : wn ≤ 60000) (hh2 : hn2 ≤ 30000) (hsp : tSp tn tv) (htv : ∀ j, j < tn → tv j < 256) : ∀ (m c acc kn : Nat) (h : List PE), tv 3 + 1 - c = m → c ≤ tv 3 + 1 → 1 ≤ c → acc + 200 * m ≤ 100000 → kn ≤ 200 → FaR h n td fk br → TpR h tn tv → Laid h (curR n dy rc t) (164 + 24 * k) sd (nI kn) → ThingAt h (curR n dy rc t) (164 + 24 * k) fq ta → X (NF G) G mX11_spans 5 110 45 [(7, .int (nI c)), (6, .int (nI acc)), (0, .ref 3), (5, .ref ta), (3, .int (nI hn2))] [] h (fun o => o.1 = some (.int (nI (acc + cntC (fun c => cntW (hoW (curR n dy rc t) (164 + 24 * k) sd c wn hn2) (tv 1 + 1 - tv 0) (tv 0)) m c))) ∧ TpR o.2 0 tv ∧ CuR o.2 ∧ Sm [4, 21, 22, 23, 24] h o.2) := by
  have hp := pcN_le (sd := sd) W (W.2.2.2.2.2.2.2.2.2.1 k hk) hsd
  obtain ⟨h4, ⟨u1, u2, u3⟩, u4, u5, u6⟩ := hsp
  intro m
  induction m with
  | zero =>
    intro c acc kn h hm hc hc1 hac hkn hfa hTp L hTh
    have f3 : h[3]? = some (cO 11 [.ref 4, .ref 6, .ref 15, .ref 16, .ref 21, .ref 25, .ref 32, .ref 35, .int (nI n), .int (nI td), .int fk, .int br]) := hfa
    obtain ⟨tb, f4, f5, e5⟩ := id hTp
    have sm4 : Sm [4] h h := Sm.rf
    obtain ⟨frg, pug, svg, g21, -⟩ := id L
    have hta := hTh.1
    refine x_iload dX11_spans_45 0 rfl ?_
    refine x_aload_n dX11_spans_47 2 rfl ?_
    refine x_get (v := .ref 4) dX11_spans_48 fX11_10 f3 (by decide) rfl ?_
    refine x_iconst (v := 3) dX11_spans_51 (by decide) ?_
    refine x_callV (rf' := 0) (rl' := 0) [.int 3] [.int (nI c)] dX11_spans_52 vX11_176 Y_X8_byteAt f4 (by decide) rfl rfl (Nat.le_of_ble_eq_true rfl) (Nat.le_of_ble_eq_true rfl) (by decide) (by decide) (c_byteL (d := 3) hTp (by omega) (by omega)) (fun _ _ e1 => ?_)
    cases e1
    have tb2 := htv 3 (by omega)
    refine x_icmp_gtN (tgt := 101) (a := c) (b := (tv 3)) (by omega) (by omega) dX11_spans_55 (by decide) (fun c_55 => ?_) (fun c_55 => absurd (by omega) c_55)
    refine x_aload_n dX11_spans_101 2 rfl ?_
    refine x_get (v := .ref 4) dX11_spans_102 fX11_10 f3 (by decide) rfl ?_
    refine x_iconst (v := 0) dX11_spans_105 (by decide) ?_
    refine x_put (fs2 := [.ref 5, .int 0]) dX11_spans_106 fX11_72 (Or.inl rfl) f4 (by decide) rfl rfl (Nat.le_of_ble_eq_true rfl) rfl (fun h3 a4 e5 l6 s7 => ?_)
    have f8 := (e5 3 (by decide)).trans f3
    have f9 := (e5 21 (by decide)).trans g21
    have sm10 := Sm.put sm4 e5 l6 s7 (by decide)
    refine x_iload dX11_spans_109 1 rfl ?_
    exact x_iret dX11_spans_111 rfl ⟨rfl, ⟨tb, a4, sm10.at f5 (by decide), fun j hj => absurd hj (Nat.not_lt_zero j)⟩, (L.cu hp).kept (fun j hj => sm10.2.2 j (by revert j; decide)), sm10.wide (by decide)⟩
  | succ m ih =>
    intro c acc kn h hm hc hc1 hac hkn hfa hTp L hTh
    have f3 : h[3]? = some (cO 11 [.ref 4, .ref 6, .ref 15, .ref 16, .ref 21, .ref 25, .ref 32, .ref 35, .int (nI n), .int (nI td), .int fk, .int br]) := hfa
    obtain ⟨tb, f4, f5, e5⟩ := id hTp
    have sm4 : Sm [4] h h := Sm.rf
    obtain ⟨frg, pug, svg, g21, -⟩ := id L
    have hta := hTh.1
    refine x_iload dX11_spans_45 0 rfl ?_
    refine x_aload_n dX11_spans_47 2 rfl ?_
    refine x_get (v := .ref 4) dX11_spans_48 fX11_10 f3 (by decide) rfl ?_
    refine x_iconst (v := 3) dX11_spans_51 (by decide) ?_
    refine x_callV (rf' := 0) (rl' := 0) [.int 3] [.int (nI c)] dX11_spans_52 vX11_176 Y_X8_byteAt f4 (by decide) rfl rfl (Nat.le_of_ble_eq_true rfl) (Nat.le_of_ble_eq_true rfl) (by decide) (by decide) (c_byteL (d := 3) hTp (by omega) (by omega)) (fun _ _ e1 => ?_)
    cases e1
    have tb2 := htv 3 (by omega)
    refine x_icmp_gtN (tgt := 101) (a := c) (b := (tv 3)) (by omega) (by omega) dX11_spans_55 (by decide) (fun c_55 => absurd c_55 (by omega)) (fun c_55 => ?_)
    refine x_aload_n dX11_spans_58 2 rfl ?_
    refine x_get (v := .ref 21) dX11_spans_59 fX11_37 f3 (by decide) rfl ?_
    refine x_iload dX11_spans_62 0 rfl ?_
    refine x_callV (rf' := 0) (rl' := 0) [.int (nI c)] [] dX11_spans_64 vX11_132 Y_X4_wearTo g21 (by decide) rfl rfl (Nat.le_of_ble_eq_true rfl) (Nat.le_of_ble_eq_true rfl) (by decide) (by decide) (c_wearToL L hp) (fun r h1 e1 => ?_)
    obtain ⟨e0, L1, sm1⟩ := e1
    cases e0
    have hT1 := hTh.kept (fun j c hj hc => sm1.at hc (by simp; omega))
    have f31 := sm1.at f3 (by decide)
    have f41 := sm1.at f4 (by decide)
    have hTp1 := hTp.kept (fun j hj => sm1.2.2 j (by revert j; decide))
    have hfa1 : FaR h1 n td fk br := f31
    obtain ⟨frh, puh, svh, g21h, -⟩ := id L1
    refine x_iload dX11_spans_67 1 rfl ?_
    refine x_aload_n dX11_spans_69 2 rfl ?_
    refine x_aload dX11_spans_70 3 rfl ?_
    refine x_iload_n dX11_spans_72 4 rfl ?_
    refine x_aload_n dX11_spans_73 2 rfl ?_
    refine x_get (v := .ref 4) dX11_spans_74 fX11_10 f31 (by decide) rfl ?_
    refine x_iconst (v := 0) dX11_spans_77 (by decide) ?_
    refine x_callV (rf' := 0) (rl' := 0) [.int 0] [.int (nI hn2), .ref ta, .ref 3, .int (nI acc)] dX11_spans_78 vX11_176 Y_X8_byteAt f41 (by decide) rfl rfl (Nat.le_of_ble_eq_true rfl) (Nat.le_of_ble_eq_true rfl) (by decide) (by decide) (c_byteL (d := 0) hTp1 (by omega) (by omega)) (fun _ _ e3 => ?_)
    cases e3
    have tb4 := htv 0 (by omega)
    refine x_aload_n dX11_spans_81 2 rfl ?_
    refine x_get (v := .ref 4) dX11_spans_82 fX11_10 f31 (by decide) rfl ?_
    refine x_iconst (v := 1) dX11_spans_85 (by decide) ?_
    refine x_callV (rf' := 0) (rl' := 0) [.int 1] [.int (nI (tv 0)), .int (nI hn2), .ref ta, .ref 3, .int (nI acc)] dX11_spans_86 vX11_176 Y_X8_byteAt f41 (by decide) rfl rfl (Nat.le_of_ble_eq_true rfl) (Nat.le_of_ble_eq_true rfl) (by decide) (by decide) (c_byteL (d := 1) hTp1 (by omega) (by omega)) (fun _ _ e5 => ?_)
    cases e5
    have tb6 := htv 1 (by omega)
    refine x_callV (rf' := 2) (rl' := 45) [.ref ta, .int (nI hn2), .int (nI (tv 0)), .int (nI (tv 1))] [.int (nI acc)] dX11_spans_89 vX11_179 Y_X11_weightsThatHold f31 (by decide) rfl rfl (Nat.le_of_ble_eq_true rfl) (Nat.le_of_ble_eq_true rfl) (by decide) (by decide) (c_weights W hk hsd (show c ≤ 200 by omega) hw hw0 hw2 hh2 u3 hfa1 L1 hT1 u2) (fun _ _ e1 => ?_)
    cases e1
    refine x_iaddN (a := acc) (b := (cntW (hoW (curR n dy rc t) (164 + 24 * k) sd c wn hn2) (tv 1 + 1 - tv 0) (tv 0))) dX11_spans_92 ?_
    refine x_istore (lv2 := [(6, .int (nI (acc + (cntW (hoW (curR n dy rc t) (164 + 24 * k) sd c wn hn2) (tv 1 + 1 - tv 0) (tv 0))))), (7, .int (nI c)), (0, .ref 3), (5, .ref ta), (3, .int (nI hn2))]) dX11_spans_93 (by decide) rfl ?_
    refine x_iincN (lv2 := [(7, .int (nI (c + 1))), (6, .int (nI (acc + (cntW (hoW (curR n dy rc t) (164 + 24 * k) sd c wn hn2) (tv 1 + 1 - tv 0) (tv 0))))), (0, .ref 3), (5, .ref ta), (3, .int (nI hn2))]) dX11_spans_95 1 rfl (by decide) rfl ?_
    refine x_goto (tgt := 45) dX11_spans_98 (by decide) ?_
    refine x_perm [0, 1, 2, 3, 4] rfl ?_
    have hcn := cntW_le (hoW (curR n dy rc t) (164 + 24 * k) sd c wn hn2) (tv 1 + 1 - tv 0) (tv 0)
    refine (ih (c + 1) _ c h1 (by omega) (by omega) (by omega) (by omega) (by omega) hfa1 hTp1 L1 hT1).weaken (fun o ho => ⟨?_, ho.2.1, ho.2.2.1, (sm1.wide (by decide)).tr ho.2.2.2⟩)
    rw [ho.1, cntC, Nat.add_assoc]

set_option maxRecDepth 100000 in
set_option maxHeartbeats 4000000 in
theorem c_spansS {G : GT} {h : List PE} {n td : Nat} {dy : Nat → Int32} {rc : Nat → Nat → Int32} {ct : Nat → Nat × Nat × Nat × Nat} {fk br t : Int32} {k sd : Nat} {hh : Int32} (hfa : FaR h n td fk br) (hbk : BkR h n dy rc ct) (hn : n ≤ 20) (hcu : CuR h) (W : WFk (curR n dy rc t) (curC n dy ct t)) {tn : Nat} {tv : Nat → Nat} (hTp : TpR h tn tv) (htn : tn ≤ 640) (htv : ∀ j, j < tn → tv j < 256) (hk : k < (curC n dy ct t).2.1) (hsd : sd < 6) : CT G mX11_spans 5 110 [.ref 3, .int (nI k), .int (nI sd), .int hh, .int t] h (fun o => o.1 = some (.int (spSp (curR n dy rc t) (curC n dy ct t) (nI k) (nI sd) hh tn tv)) ∧ TpR o.2 0 tv ∧ CuR o.2 ∧ Sm [4, 21, 22, 23, 24] h o.2) := by
  have f3 : h[3]? = some (cO 11 [.ref 4, .ref 6, .ref 15, .ref 16, .ref 21, .ref 25, .ref 32, .ref 35, .int (nI n), .int (nI td), .int fk, .int br]) := hfa
  obtain ⟨tb, f4, f5, e5⟩ := id hTp
  have sm4 : Sm [4] h h := Sm.rf
  have w4 := W.2.2.2.1
  have hp := pcN_le (sd := sd) W (W.2.2.2.2.2.2.2.2.2.1 k hk) hsd
  have ck : tO (nI k) = 164 + 24 * k := by show 164 + 24 * (nI k).toNatClampNeg = _; rw [nI_clamp (by omega)]
  have cs : (nI sd).toNatClampNeg = sd := nI_clamp (by omega)
  obtain ⟨⟨wn, hw, hw1, hw2⟩, -⟩ := W.2.2.2.2.2.2.2.2.2.1 k hk
  have nb1 : ¬ bT (curC n dy ct t) (nI k) := fun q => q.elim (nI_pos (by omega)) (fun q => absurd ((nI_leI (by omega) (by omega)).mp q) (by omega))
  have nb2 : ¬ bS (nI sd) := fun q => q.elim (nI_pos (by omega)) (fun q => absurd ((nI_leI (a := 6) (by decide) (by omega)).mp q) (by omega))
  show X (NF G) G mX11_spans 5 110 0 [(0, .ref 3), (1, .int (nI k)), (2, .int (nI sd)), (3, .int hh), (4, .int t)] [] h _
  refine x_aload_n dX11_spans_0 0 rfl ?_
  refine x_iload_n dX11_spans_1 1 rfl ?_
  refine x_iload_n dX11_spans_2 2 rfl ?_
  refine x_iload dX11_spans_3 4 rfl ?_
  refine x_callV (rf' := 4) (rl' := 86) [.int (nI k), .int (nI sd), .int t] [] dX11_spans_5 vX11_125 Y_X11_putOnPad f3 (by decide) rfl rfl (Nat.le_of_ble_eq_true rfl) (Nat.le_of_ble_eq_true rfl) (by decide) (by decide) (c_putOnPadS hfa hbk hn hcu W hk hsd) (fun r h1 e1 => ?_)
  obtain ⟨ta, e0, L0, sm1, fq, hT⟩ := e1
  cases e0
  have hta := hT.1
  have f31 := sm1.at f3 (by decide)
  have f41 := sm1.at f4 (by decide)
  have f51 := sm1.at f5 (by decide)
  have hTp1 := hTp.kept (fun j hj => sm1.2.2 j (by revert j; decide))
  have hfa1 : FaR h1 n td fk br := f31
  have sm5 : Sm [4] h1 h1 := Sm.rf
  refine x_astore (lv2 := [(5, .ref ta), (0, .ref 3), (1, .int (nI k)), (2, .int (nI sd)), (3, .int hh), (4, .int t)]) dX11_spans_8 (by decide) rfl ?_
  refine x_iconst (v := (-1)) dX11_spans_10 (by decide) ?_
  refine x_istore (lv2 := [(6, .int (-1)), (5, .ref ta), (0, .ref 3), (1, .int (nI k)), (2, .int (nI sd)), (3, .int hh), (4, .int t)]) dX11_spans_11 (by decide) rfl ?_
  refine x_aload dX11_spans_13 1 rfl ?_
  refine x_ifnull dX11_spans_15 ?_
  refine x_iload_n dX11_spans_18 5 rfl ?_
  refine x_callS (rf' := 0) (rl' := 0) [.int hh] [] dX11_spans_19 vX11_129 Y_X11_isHeight rfl rfl (Nat.le_of_ble_eq_true rfl) (Nat.le_of_ble_eq_true rfl) (by decide) (by decide) c_isHeight (fun _ _ e1 => ?_)
  cases e1
  by_cases hH : bH hh
  · rw [if_pos hH]
    refine x_if_eq (tgt := 101) dX11_spans_22 (by decide) (fun c_22 => ?_) (fun c_22 => absurd (by decide) c_22)
    refine x_aload_n dX11_spans_101 2 rfl ?_
    refine x_get (v := .ref 4) dX11_spans_102 fX11_10 f31 (by decide) rfl ?_
    refine x_iconst (v := 0) dX11_spans_105 (by decide) ?_
    refine x_put (fs2 := [.ref 5, .int 0]) dX11_spans_106 fX11_72 (Or.inl rfl) f41 (by decide) rfl rfl (Nat.le_of_ble_eq_true rfl) rfl (fun h1 a2 e3 l4 s5 => ?_)
    have f6 := (e3 3 (by decide)).trans f31
    have sm7 := Sm.put sm5 e3 l4 s5 (by decide)
    refine x_iload dX11_spans_109 0 rfl ?_
    exact x_iret dX11_spans_111 rfl ⟨by rw [spSp, if_pos (Or.inr (Or.inr (Or.inl hH)))], ⟨tb, a2, sm7.at f51 (by decide), fun j hj => absurd hj (Nat.not_lt_zero j)⟩, (L0.cu hp).kept (fun j hj => sm7.2.2 j (by revert j; decide)), (sm1.wide (by decide)).tr (sm7.wide (by decide))⟩
  · rw [if_neg hH]
    obtain ⟨hn2, hh2, rfl⟩ := ix_le (m := 30000) (by decide) hH
    refine x_if_eq (tgt := 101) dX11_spans_22 (by decide) (fun c_22 => absurd c_22 (by decide)) (fun c_22 => ?_)
    refine x_aload_n dX11_spans_25 2 rfl ?_
    refine x_callV (rf' := 1) (rl' := 21) [] [] dX11_spans_26 vX11_172 Y_X11_tapeTellsSpans f31 (by decide) rfl rfl (Nat.le_of_ble_eq_true rfl) (Nat.le_of_ble_eq_true rfl) (by decide) (by decide) (c_tellsSpans hfa1 hTp1 htn htv) (fun _ _ e1 => ?_)
    cases e1
    by_cases hS : tSp tn tv
    · rw [if_pos hS]
      refine x_if_eq (tgt := 101) dX11_spans_29 (by decide) (fun c_29 => absurd c_29 (by decide)) (fun c_29 => ?_)
      refine x_iconst (v := 0) dX11_spans_32 (by decide) ?_
      refine x_istore (lv2 := [(6, .int 0), (5, .ref ta), (0, .ref 3), (1, .int (nI k)), (2, .int (nI sd)), (3, .int (nI hn2)), (4, .int t)]) dX11_spans_33 (by decide) rfl ?_
      refine x_aload_n dX11_spans_35 2 rfl ?_
      refine x_get (v := .ref 4) dX11_spans_36 fX11_10 f31 (by decide) rfl ?_
      refine x_iconst (v := 2) dX11_spans_39 (by decide) ?_
      obtain ⟨h4, ⟨u1, u2, u3⟩, u4, u5, u6⟩ := id hS
      refine x_callV (rf' := 0) (rl' := 0) [.int 2] [] dX11_spans_40 vX11_176 Y_X8_byteAt f41 (by decide) rfl rfl (Nat.le_of_ble_eq_true rfl) (Nat.le_of_ble_eq_true rfl) (by decide) (by decide) (c_byteL (d := 2) hTp1 (by omega) (by omega)) (fun _ _ e8 => ?_)
      cases e8
      have tb9 := htv 2 (by omega)
      refine x_istore (lv2 := [(7, .int (nI (tv 2))), (6, .int 0), (5, .ref ta), (0, .ref 3), (1, .int (nI k)), (2, .int (nI sd)), (3, .int (nI hn2)), (4, .int t)]) dX11_spans_43 (by decide) rfl ?_
      refine x_perm [0, 1, 3, 2, 6] rfl ?_
      refine (l_spans W hk hsd hw hw1 hw2 hh2 hS htv (tv 3 + 1 - tv 2) (tv 2) 0 100 h1 rfl (by omega) (by omega) (by omega) (by omega) hfa1 hTp1 L0 hT).weaken (fun o ho => ⟨?_, ho.2.1, ho.2.2.1, (sm1.wide (by decide)).tr ho.2.2.2⟩)
      rw [ho.1, spSp, if_neg (fun q => q.elim nb1 (fun q => q.elim nb2 (fun q => q.elim hH (fun q => q hS)))), ck, cs, hw, nI_clamp (show wn < 2 ^ 31 by omega), nI_clamp (show hn2 < 2 ^ 31 by omega), Nat.zero_add]
    · rw [if_neg hS]
      refine x_if_eq (tgt := 101) dX11_spans_29 (by decide) (fun c_29 => ?_) (fun c_29 => absurd (by decide) c_29)
      refine x_aload_n dX11_spans_101 2 rfl ?_
      refine x_get (v := .ref 4) dX11_spans_102 fX11_10 f31 (by decide) rfl ?_
      refine x_iconst (v := 0) dX11_spans_105 (by decide) ?_
      refine x_put (fs2 := [.ref 5, .int 0]) dX11_spans_106 fX11_72 (Or.inl rfl) f41 (by decide) rfl rfl (Nat.le_of_ble_eq_true rfl) rfl (fun h10 a11 e12 l13 s14 => ?_)
      have f15 := (e12 3 (by decide)).trans f31
      have sm16 := Sm.put sm5 e12 l13 s14 (by decide)
      refine x_iload dX11_spans_109 0 rfl ?_
      exact x_iret dX11_spans_111 rfl ⟨by rw [spSp, if_pos (Or.inr (Or.inr (Or.inr hS)))], ⟨tb, a11, sm16.at f51 (by decide), fun j hj => absurd hj (Nat.not_lt_zero j)⟩, (L0.cu hp).kept (fun j hj => sm16.2.2 j (by revert j; decide)), (sm1.wide (by decide)).tr (sm16.wide (by decide))⟩

theorem c_spans {G : GT} {h : List PE} {n td : Nat} {dy : Nat → Int32} {rc : Nat → Nat → Int32} {ct : Nat → Nat × Nat × Nat × Nat} {fk br t : Int32} {th sd hh : Int32} (hfa : FaR h n td fk br) (hbk : BkR h n dy rc ct) (hn : n ≤ 20) (hcu : CuR h) (W : WFk (curR n dy rc t) (curC n dy ct t)) {tn : Nat} {tv : Nat → Nat} (hTp : TpR h tn tv) (htn : tn ≤ 640) (htv : ∀ j, j < tn → tv j < 256) : CT G mX11_spans 5 110 [.ref 3, .int th, .int sd, .int hh, .int t] h (fun o => o.1 = some (.int (spSp (curR n dy rc t) (curC n dy ct t) th sd hh tn tv)) ∧ TpR o.2 0 tv ∧ CuR o.2 ∧ Sm [4, 21, 22, 23, 24] h o.2) := by
  by_cases h1 : bT (curC n dy ct t) th
  · exact c_spansN1 hfa hbk hn hcu W hTp htn htv h1
  · obtain ⟨k, hk, rfl⟩ := ix_of (by have := W.2.2.2.1; omega) h1
    by_cases h2 : bS sd
    · exact c_spansN2 hfa hbk hn hcu W hTp htn htv hk h2
    · obtain ⟨s, hs, rfl⟩ := ix_of (m := 6) (by decide) h2
      exact c_spansS hfa hbk hn hcu W hTp htn htv hk hs

def cS (c : CN) (s : Nat) : Nat := if s = 0 then c.1 else if s = 1 then c.2.1 else c.2.2.1
def cI1 (c : CN) (s : Nat) : CN := if s = 0 then (c.1 + 1, c.2.1, c.2.2.1, c.2.2.2) else if s = 1 then (c.1, c.2.1 + 1, c.2.2.1, c.2.2.2) else (c.1, c.2.1, c.2.2.1 + 1, c.2.2.2)
abbrev gN (nl : NL') (e : Nat) : Nat × Nat × Nat := nl.getD e (0, 0, 0)
/-- the model's NAMES -/
def NmP (nm : Nat → Int64) (nl : NL') (c : CN) : Prop := (∀ s k, s < 3 → k < cS c s → ∃ e, e < nl.length ∧ (gN nl e).1 = s ∧ (gN nl e).2.1 = k) ∧ (∀ e, e < nl.length → (gN nl e).1 < 3 ∧ (gN nl e).2.1 < cS c (gN nl e).1 ∧ nm (8 * (gN nl e).1 + (gN nl e).2.1) = lN (gN nl e).2.2 ∧ ∃ b, WP (gN nl e).2.2 b) ∧ ∀ e e', e < nl.length → e' < nl.length → (gN nl e).2.2 = (gN nl e').2.2 → e = e'
theorem cS_I1 {c : CN} {k : Nat} (hk : k < 3) : (cS (cI1 c k) k = cS c k + 1) ∧ ∀ s, s < 3 → s ≠ k → cS (cI1 c k) s = cS c s := by
  have three : ∀ s, s < 3 → s = 0 ∨ s = 1 ∨ s = 2 := fun s hs => by omega
  rcases three k hk with rfl | rfl | rfl
  · exact ⟨rfl, fun s h1 h2 => by rcases three s h1 with rfl | rfl | rfl <;> first | rfl | exact absurd rfl h2⟩
  · exact ⟨rfl, fun s h1 h2 => by rcases three s h1 with rfl | rfl | rfl <;> first | rfl | exact absurd rfl h2⟩
  · exact ⟨rfl, fun s h1 h2 => by rcases three s h1 with rfl | rfl | rfl <;> first | rfl | exact absurd rfl h2⟩
theorem ixN_spec (nl : NL') (w : Nat) : ixN nl w ≤ nl.length ∧ (∀ e, e < ixN nl w → ¬ (gN nl e).2.2 = w) ∧ (ixN nl w < nl.length → (gN nl (ixN nl w)).2.2 = w) := by
  obtain ⟨a, b, c, d⟩ := fsM_spec (p := fun e => decide ((nl.getD e (0, 0, 0)).2.2 = w)) nl.length 0
  refine ⟨by unfold ixN; omega, fun e he z => ?_, fun h => of_decide_eq_true (d (by unfold ixN at h; omega))⟩
  have := c e (Nat.zero_le _) he
  exact absurd (decide_eq_true z) (by rw [this]; decide)
abbrev fdK (nm : Nat → Int64) (w k n : Nat) : Nat := fsM (fun e => decide (nm (8 * k + e) = lN w)) n 0
theorem find_eq {nm : Nat → Int64} {nl : NL'} {c : CN} {w b k : Nat} (h : NmP nm nl c) (hw : WP w b) (hk : k < 3) : (if fdK nm w k (cS c k) < cS c k then nI (fdK nm w k (cS c k)) else (-1 : Int32)) = if ixN nl w < nl.length ∧ (gN nl (ixN nl w)).1 = k then nI (gN nl (ixN nl w)).2.1 else -1 := by
  obtain ⟨h1, h2, h3⟩ := h
  obtain ⟨i1, i2, i3⟩ := ixN_spec nl w
  obtain ⟨a, b9, cc, d⟩ := fsM_spec (p := fun e => decide (nm (8 * k + e) = lN w)) (cS c k) 0
  have mt' : ∀ j, j < cS c k → nm (8 * k + j) = lN w → ∃ e, e < nl.length ∧ (gN nl e).1 = k ∧ (gN nl e).2.1 = j ∧ (gN nl e).2.2 = w := fun j hj hm => by
    obtain ⟨e, he, e1, e2⟩ := h1 k j hk hj
    obtain ⟨-, -, e3, b, e4⟩ := h2 e he
    rw [e1, e2, hm] at e3
    exact ⟨e, he, e1, e2, ((e4.l hw).2.mp e3.symm)⟩
  by_cases q : fdK nm w k (cS c k) < cS c k
  · rw [if_pos q]
    obtain ⟨e, he, e1, e2, e3⟩ := mt' _ q (of_decide_eq_true (d (by unfold fdK at q; omega)))
    have hx : ixN nl w < nl.length := by
      by_cases z : ixN nl w < nl.length
      · exact z
      · exact absurd e3 (i2 e (by omega))
    have : ixN nl w = e := h3 _ _ hx he ((i3 hx).trans e3.symm)
    rw [this, if_pos ⟨he, e1⟩, e2]
  · rw [if_neg q]
    by_cases z : ixN nl w < nl.length ∧ (gN nl (ixN nl w)).1 = k
    · exfalso
      obtain ⟨-, z2, z3, -⟩ := h2 _ z.1
      rw [z.2] at z2 z3
      rw [i3 z.1] at z3
      exact absurd (decide_eq_true z3) (by
        have := cc (gN nl (ixN nl w)).2.1 (Nat.zero_le _) (by unfold fdK at q; omega)
        rw [this]; decide)
    · rw [if_neg z]
theorem NmP.add {nm : Nat → Int64} {nl : NL'} {c : CN} {w b k : Nat} (h : NmP nm nl c) (hw : WP w b) (hk : k < 3) (h8 : ∀ s, cS c s ≤ 8) (hc : cS c k < 8) (hn : ¬ ixN nl w < nl.length) : NmP (vp_updL nm (8 * k + cS c k) (lN w)) (nl ++ [(k, cS c k, w)]) (cI1 c k) := by
  obtain ⟨h1, h2, h3⟩ := h
  obtain ⟨i1, i2, i3⟩ := ixN_spec nl w
  obtain ⟨s1, s2⟩ := cS_I1 (c := c) hk
  have gl : ∀ e, e < nl.length → gN (nl ++ [(k, cS c k, w)]) e = gN nl e := fun e he => (getD_app (x := (k, cS c k, w))).1 he
  have gr : gN (nl ++ [(k, cS c k, w)]) nl.length = (k, cS c k, w) := (getD_app (x := (k, cS c k, w))).2 rfl
  have hl : (nl ++ [(k, cS c k, w)]).length = nl.length + 1 := by simp
  refine ⟨fun s j hs hj => ?_, fun e he => ?_, fun e e' he he' hh => ?_⟩
  · rw [hl]
    by_cases q : s = k ∧ j = cS c k
    · exact ⟨nl.length, by omega, by rw [gr]; exact q.1.symm, by rw [gr]; exact q.2.symm⟩
    · have hj2 : j < cS c s := by
        by_cases q2 : s = k
        · subst q2; rw [s1] at hj; omega
        · rw [s2 s hs q2] at hj; exact hj
      obtain ⟨e, he, e1, e2⟩ := h1 s j hs hj2
      exact ⟨e, by omega, by rw [gl e he]; exact e1, by rw [gl e he]; exact e2⟩
  · rw [hl] at he
    by_cases q : e = nl.length
    · subst q
      rw [gr]
      exact ⟨hk, by show cS c k < cS (cI1 c k) k; omega, pk_uLs, b, hw⟩
    · have he2 : e < nl.length := by omega
      rw [gl e he2]
      obtain ⟨a1, a2, a3, a4⟩ := h2 e he2
      have h88 := h8 (gN nl e).1
      refine ⟨a1, ?_, ?_, a4⟩
      · by_cases q2 : (gN nl e).1 = k
        · rw [q2] at a2 ⊢; omega
        · rw [s2 _ a1 q2]; exact a2
      · rw [pk_uLn]
        · exact a3
        · intro z
          by_cases q2 : (gN nl e).1 = k
          · rw [q2] at a2 z; omega
          · omega
  · rw [hl] at he he'
    by_cases q : e = nl.length <;> by_cases q' : e' = nl.length
    · omega
    · subst q
      rw [gr, gl e' (by omega)] at hh
      exact absurd hh.symm (i2 e' (by omega))
    · subst q'
      rw [gr, gl e (by omega)] at hh
      exact absurd hh (i2 e (by omega))
    · rw [gl e (by omega), gl e' (by omega)] at hh
      exact h3 e e' (by omega) (by omega) hh
theorem rsort {bk R : Nat → Int32} {c : CN} (hR : ∀ j, j < 484 → bk (484 * 20 + j) = R j) (W : WFk R c) : ∀ k, k < 3 → bk (484 * 20 + k) = nI (cS c k) := fun k hk => by
  rw [hR k (by omega)]
  match k, hk with
  | 0, _ => exact W.1
  | 1, _ => exact W.2.2.1
  | 2, _ => exact W.2.2.2.2.1
theorem wf8 {R : Nat → Int32} {c : CN} (W : WFk R c) : ∀ s, cS c s ≤ 8 := fun s => by
  have a := W.2.1
  have b := W.2.2.2.1
  have d := W.2.2.2.2.2.1
  unfold cS
  split
  · exact a
  · split
    · exact b
    · exact d

set_option maxRecDepth 100000 in
set_option maxHeartbeats 4000000 in
theorem l_find {G : GT} {h : List PE} {tn : Nat} {flt plc tld too frm knd num sgn : Int32} {x bk : Nat → Int32} {nm : Nat → Int64} {w k n : Nat} (hk : k < 3) (hn : n ≤ 8) (hb : bk (484 * 20 + k) = nI n) (f36 : h[36]? = some (cO 12 (MO ((x 0)) ((x 1)) ((x 2)) ((x 3)) ((nI tn)) too frm knd num sgn flt plc ((lN w)) tld ((x 4)) ((x 5)) ((x 6)) ((x 7)) ((x 8)) ((x 9)) ((x 10)) ((x 11))))) (f38 : h[38]? = some (cI 10164 bk)) (f40 : h[40]? = some (cJ 24 nm)) : ∀ (m e : Nat), n - e = m → e ≤ n → X (NF G) G mX12_find 1 20 2 [(2, .int (nI e)), (0, .ref 36), (1, .int (nI k))] [] h (fun o => o = (some (.int (if fsM (fun e => decide (nm (8 * k + e) = lN w)) m e < n then nI (fsM (fun e => decide (nm (8 * k + e) = lN w)) m e) else -1)), h)) := by
  intro m
  induction m with
  | zero =>
    intro e hm he
    refine x_iload_n dX12_find_2 0 rfl ?_
    refine x_aload_n dX12_find_3 1 rfl ?_
    refine x_get (v := .ref 38) dX12_find_4 fX12_13 f36 (by decide) rfl ?_
    refine x_bipush (v := 20) dX12_find_7 (by decide) ?_
    refine x_callS (rf' := 0) (rl' := 0) [.int 20] [.ref 38, .int (nI e)] dX12_find_9 vX12_154 Y_X12_at rfl rfl (Nat.le_of_ble_eq_true rfl) (Nat.le_of_ble_eq_true rfl) (by decide) (by decide) (c_at (b := 20)) (fun _ _ e101 => ?_)
    cases e101
    refine x_iload_n dX12_find_12 2 rfl ?_
    refine x_iaddN (a := (484 * 20)) (b := k) dX12_find_13 ?_
    refine x_ialdN (i := ((484 * 20) + k)) dX12_find_14 f38 (by decide) (by omega) (by decide) ?_
    rw [hb]
    refine x_icmp_geN (tgt := 45) (a := e) (b := n) (by omega) (by omega) dX12_find_15 (by decide) (fun c_15 => ?_) (fun c_15 => absurd (by omega) c_15)
    refine x_iconst (v := (-1)) dX12_find_45 (by decide) ?_
    exact x_iret dX12_find_46 rfl (by rw [fsM, if_neg (by omega)])
  | succ m ih =>
    intro e hm he
    refine x_iload_n dX12_find_2 0 rfl ?_
    refine x_aload_n dX12_find_3 1 rfl ?_
    refine x_get (v := .ref 38) dX12_find_4 fX12_13 f36 (by decide) rfl ?_
    refine x_bipush (v := 20) dX12_find_7 (by decide) ?_
    refine x_callS (rf' := 0) (rl' := 0) [.int 20] [.ref 38, .int (nI e)] dX12_find_9 vX12_154 Y_X12_at rfl rfl (Nat.le_of_ble_eq_true rfl) (Nat.le_of_ble_eq_true rfl) (by decide) (by decide) (c_at (b := 20)) (fun _ _ e101 => ?_)
    cases e101
    refine x_iload_n dX12_find_12 2 rfl ?_
    refine x_iaddN (a := (484 * 20)) (b := k) dX12_find_13 ?_
    refine x_ialdN (i := ((484 * 20) + k)) dX12_find_14 f38 (by decide) (by omega) (by decide) ?_
    rw [hb]
    refine x_icmp_geN (tgt := 45) (a := e) (b := n) (by omega) (by omega) dX12_find_15 (by decide) (fun c_15 => absurd c_15 (by omega)) (fun c_15 => ?_)
    refine x_aload_n dX12_find_18 1 rfl ?_
    refine x_get (v := .ref 40) dX12_find_19 fX12_19 f36 (by decide) rfl ?_
    refine x_bipush (v := 8) dX12_find_22 (by decide) ?_
    refine x_iload_n dX12_find_24 2 rfl ?_
    refine x_imulN (a := 8) (b := k) dX12_find_25 ?_
    refine x_iload_n dX12_find_26 0 rfl ?_
    refine x_iaddN (a := (8 * k)) (b := e) dX12_find_27 ?_
    refine x_laldN (i := ((8 * k) + e)) dX12_find_28 f40 (by decide) (by omega) (by decide) ?_
    refine x_aload_n dX12_find_29 1 rfl ?_
    refine x_get (v := .long (lN w)) dX12_find_30 fX12_94 f36 (by decide) rfl ?_
    refine x_lif_ne (tgt := 39) dX12_find_33 dX12_find_34 (by decide) (fun c_34 => ?_) (fun c_34 => ?_)
    · refine x_iincN (lv2 := [(2, .int (nI (e + 1))), (0, .ref 36), (1, .int (nI k))]) dX12_find_39 0 rfl (by decide) rfl ?_
      refine x_goto (tgt := 2) dX12_find_42 (by decide) ?_
      refine x_perm [0, 1, 2] rfl ?_
      exact (ih (e + 1) (by omega) (by omega)).weaken (fun o ho => by rw [ho, fsM, if_neg (show ¬ decide (nm (8 * k + e) = lN w) = true by rw [decide_eq_true_eq]; exact c_34)])
    · refine x_iload_n dX12_find_37 0 rfl ?_
      exact x_iret dX12_find_38 rfl (by rw [fsM, if_pos (show decide (nm (8 * k + e) = lN w) = true by rw [decide_eq_true_eq]; exact c_34), if_pos (by omega)])

set_option maxRecDepth 100000 in
set_option maxHeartbeats 4000000 in
theorem c_find {G : GT} {h : List PE} {tn : Nat} {flt plc tld too frm knd num sgn : Int32} {x bk : Nat → Int32} {nm : Nat → Int64} {w k n : Nat} (hk : k < 3) (hn : n ≤ 8) (hb : bk (484 * 20 + k) = nI n) (f36 : h[36]? = some (cO 12 (MO ((x 0)) ((x 1)) ((x 2)) ((x 3)) ((nI tn)) too frm knd num sgn flt plc ((lN w)) tld ((x 4)) ((x 5)) ((x 6)) ((x 7)) ((x 8)) ((x 9)) ((x 10)) ((x 11))))) (f38 : h[38]? = some (cI 10164 bk)) (f40 : h[40]? = some (cJ 24 nm)) : CT G mX12_find 1 20 [.ref 36, .int (nI k)] h (fun o => o = (some (.int (if fdK nm w k n < n then nI (fdK nm w k n) else -1)), h)) := by
  show X (NF G) G mX12_find 1 20 0 [(0, .ref 36), (1, .int (nI k))] [] h _
  refine x_iconst (v := 0) dX12_find_0 (by decide) ?_
  refine x_istore_n (lv2 := [(2, .int 0), (0, .ref 36), (1, .int (nI k))]) dX12_find_1 (by decide) rfl ?_
  refine x_perm (lv2 := [(2, .int (nI 0)), (0, .ref 36), (1, .int (nI k))]) [0, 1, 2] rfl ?_
  exact l_find hk hn hb f36 f38 f40 n 0 rfl (Nat.zero_le _)

set_option maxRecDepth 100000 in
set_option maxHeartbeats 4000000 in
theorem c_readToldM {G : GT} {h : List PE} {tn : Nat} {tv : Nat → Nat} {mtp : Nat → Int32} {flt plc tld too frm knd num sgn : Int32} {wrd : Int64} {x : Nat → Int32} {i : Nat} (htn : tn ≤ 640) (hv : ∀ j, j < tn → tv j < 256) (hmt : ∀ j, j < tn → mtp j = nI (tv j)) (tk : TkM tn tv i too frm knd num sgn wrd) {k : Nat} {bk : Nat → Int32} {nm : Nat → Int64} {nl : NL'} {c : CN} (f36 : h[36]? = some (cO 12 (MO ((x 0)) ((x 1)) ((x 2)) ((x 3)) ((nI tn)) too frm knd num sgn flt plc wrd tld ((x 4)) ((x 5)) ((x 6)) ((x 7)) ((x 8)) ((x 9)) ((x 10)) ((x 11))))) (f37 : h[37]? = some (cI 640 mtp)) (f38 : h[38]? = some (cI 10164 bk)) (f40 : h[40]? = some (cJ 24 nm)) (hRs : ∀ k, k < 3 → bk (484 * 20 + k) = nI (cS c k)) (hnp : NmP nm nl c) (w8 : ∀ s, cS c s ≤ 8) (hk : k < 3)  : CT G mX12_readTold 3 66 [.ref 36, .int (nI k)] h (fun o => Sm [36] h o.2 ∧ match tldF tn tv nl k i with | none => o.1 = some (.int 1) ∧ MRd o.2 tn tv (i + 1) x flt plc (nI (tldV tn tv nl i)) | some f => o.1 = some (.int 0) ∧ MBd o.2 tn tv x f) := by
  have sm0 : Sm [36] h h := Sm.rf
  show X (NF G) G mX12_readTold 3 66 0 [(0, .ref 36), (1, .int (nI k))] [] h _
  refine x_aload_n dX12_readTold_0 0 rfl ?_
  refine x_get (v := .int knd) dX12_readTold_1 fX12_81 f36 (by decide) rfl ?_
  refine x_iconst (v := 2) dX12_readTold_4 (by decide) ?_
  refine x_icmp_ne (tgt := 15) dX12_readTold_5 (by decide) (fun c_5 => ?_) (fun c_5 => ?_)
  · refine x_aload_n dX12_readTold_15 0 rfl ?_
    refine x_iconst (v := 1) dX12_readTold_16 (by decide) ?_
    refine x_callV (rf' := 0) (rl' := 0) [.int 1] [] dX12_readTold_17 vX12_145 Y_X12_bad f36 (by decide) rfl rfl (Nat.le_of_ble_eq_true rfl) (Nat.le_of_ble_eq_true rfl) (by decide) (by decide) (c_bad (k := 1) htn hv hmt tk f36 f37 (fun _ => rfl)) (fun r h101 e102 => ?_)
    obtain ⟨sm103, e0, m104⟩ := e102
    cases e0
    have sm103 : Sm [36] h h101 := sm103
    have f105 := sm103.at f37 (by decide)
    have f106 := sm103.at f38 (by decide)
    have f107 := sm103.at f40 (by decide)
    have sm108 := sm0.tr (sm103.wide (by decide))
    exact x_zret dX12_readTold_20 rfl rfl ⟨sm108, by rw [show tldF tn tv nl k i = some (1, i) from if_neg (fun z => c_5 (tk.k2.mpr (by omega)))]; exact ⟨rfl, m104⟩⟩
  · refine x_aload_n dX12_readTold_8 0 rfl ?_
    have kw := tk.k2.mp c_5
    refine x_callV (rf' := 2) (rl' := 46) [] [] dX12_readTold_9 vX12_157 Y_X12_isTaken f36 (by decide) rfl rfl (Nat.le_of_ble_eq_true rfl) (Nat.le_of_ble_eq_true rfl) (by decide) (by decide) (c_isTaken htn hv hmt tk kw f36 f37) (fun _ _ e109 => ?_)
    cases e109
    by_cases k17 : kd tn tv i = 17
    · rw [if_pos k17]
      have ew := (tk.2.2.2.1 kw).2
      have hW := (kd_word kw).1
      have w36 : h[36]? = some (cO 12 (MO ((x 0)) ((x 1)) ((x 2)) ((x 3)) ((nI tn)) too frm knd num sgn flt plc ((lN (wn tn tv i))) tld ((x 4)) ((x 5)) ((x 6)) ((x 7)) ((x 8)) ((x 9)) ((x 10)) ((x 11)))) := by rw [← ew]; exact f36
      have tw : TkM tn tv i too frm knd num sgn (lN (wn tn tv i)) := by rw [← ew]; exact tk
      refine x_if_eq (tgt := 21) dX12_readTold_12 (by decide) (fun c_12 => ?_) (fun c_12 => absurd (by decide) c_12)
      refine x_aload_n dX12_readTold_21 0 rfl ?_
      refine x_aload_n dX12_readTold_22 0 rfl ?_
      refine x_iload_n dX12_readTold_23 1 rfl ?_
      refine x_callV (rf' := 1) (rl' := 20) [.int (nI k)] [.ref 36] dX12_readTold_24 vX12_160 Y_X12_find w36 (by decide) rfl rfl (Nat.le_of_ble_eq_true rfl) (Nat.le_of_ble_eq_true rfl) (by decide) (by decide) (c_find (k := k) (w := wn tn tv i) (by omega) (w8 k) (hRs k (by omega)) w36 f38 f40) (fun _ _ e110 => ?_)
      cases e110
      rw [find_eq hnp hW (show k < 3 by omega)]
      by_cases hx24 : ixN nl (wn tn tv i) < nl.length ∧ (gN nl (ixN nl (wn tn tv i))).1 = k
      · rw [if_pos hx24]
        have lk : (gN nl (ixN nl (wn tn tv i))).2.1 < 2 ^ 30 := by have a := (hnp.2.1 _ hx24.1).2.1; have b := w8 (gN nl (ixN nl (wn tn tv i))).1; omega
        refine x_put (fs2 := (MO ((x 0)) ((x 1)) ((x 2)) ((x 3)) ((nI tn)) too frm knd num sgn flt plc ((lN (wn tn tv i))) ((nI ((gN nl (ixN nl (wn tn tv i))).2.1))) ((x 4)) ((x 5)) ((x 6)) ((x 7)) ((x 8)) ((x 9)) ((x 10)) ((x 11)))) dX12_readTold_27 fX12_151 (Or.inl rfl) w36 (by decide) rfl rfl (Nat.le_of_ble_eq_true rfl) rfl (fun h111 a112 e113 l114 s115 => ?_)
        have f116 := (e113 37 (by decide)).trans f37
        have f117 := (e113 38 (by decide)).trans f38
        have f118 := (e113 40 (by decide)).trans f40
        have sm119 := Sm.put sm0 e113 l114 s115 (by decide)
        refine x_aload_n dX12_readTold_30 0 rfl ?_
        refine x_get (v := .int (nI ((gN nl (ixN nl (wn tn tv i))).2.1))) dX12_readTold_31 fX12_151 a112 (by decide) rfl ?_
        refine x_iconst (v := (-1)) dX12_readTold_34 (by decide) ?_
        refine x_icmp_ne (tgt := 44) dX12_readTold_35 (by decide) (fun c_35 => ?_) (fun c_35 => ?_)
        · refine x_aload_n dX12_readTold_44 0 rfl ?_
          refine x_callV (rf' := 1) (rl' := 21) [] [] dX12_readTold_45 vX12_148 Y_X12_go a112 (by decide) rfl rfl (Nat.le_of_ble_eq_true rfl) (Nat.le_of_ble_eq_true rfl) (by decide) (by decide) (c_goN htn hv hmt tw a112 f116 (by omega)) (fun r h120 e121 => ?_)
          obtain ⟨e0, m123, sm122⟩ := e121
          cases e0
          have sm122 : Sm [36] h111 h120 := sm122
          have f124 := sm122.at f116 (by decide)
          have f125 := sm122.at f117 (by decide)
          have f126 := sm122.at f118 (by decide)
          have sm127 := sm119.tr (sm122.wide (by decide))
          obtain ⟨m128, m129, m130, m131, m132, m133, f134, tk135⟩ := m123
          have f134 : h120[36]? = some (cO 12 (MO ((x 0)) ((x 1)) ((x 2)) ((x 3)) ((nI tn)) m128 m129 m130 m131 m132 flt plc m133 ((nI ((gN nl (ixN nl (wn tn tv i))).2.1))) ((x 4)) ((x 5)) ((x 6)) ((x 7)) ((x 8)) ((x 9)) ((x 10)) ((x 11)))) := f134
          have tk135 : TkM tn tv (i + 1) m128 m129 m130 m131 m132 m133 := tk135
          refine x_iconst (v := 1) dX12_readTold_48 (by decide) ?_
          exact x_zret dX12_readTold_49 rfl rfl ⟨sm127, by rw [show tldF tn tv nl k i = none from (if_pos k17).trans (if_pos hx24)]; exact ⟨rfl, ⟨_, _, _, _, _, _, f134, tk135⟩⟩⟩
        · refine x_aload_n dX12_readTold_38 0 rfl ?_
          refine x_iconst (v := 3) dX12_readTold_39 (by decide) ?_
          refine x_callV (rf' := 0) (rl' := 0) [.int 3] [] dX12_readTold_40 vX12_145 Y_X12_bad a112 (by decide) rfl rfl (Nat.le_of_ble_eq_true rfl) (Nat.le_of_ble_eq_true rfl) (by decide) (by decide) (c_bad (k := 3) htn hv hmt tw a112 f116 (fun z => by have := tk.k1 z; omega)) (fun r h136 e137 => ?_)
          obtain ⟨sm138, e0, m139⟩ := e137
          cases e0
          have sm138 : Sm [36] h111 h136 := sm138
          have f140 := sm138.at f116 (by decide)
          have f141 := sm138.at f117 (by decide)
          have f142 := sm138.at f118 (by decide)
          have sm143 := sm119.tr (sm138.wide (by decide))
          exact x_zret dX12_readTold_43 rfl rfl (absurd c_35 (nI_ne_m1 (by omega)))
      · rw [if_neg hx24]
        refine x_put (fs2 := (MO ((x 0)) ((x 1)) ((x 2)) ((x 3)) ((nI tn)) too frm knd num sgn flt plc ((lN (wn tn tv i))) ((-1)) ((x 4)) ((x 5)) ((x 6)) ((x 7)) ((x 8)) ((x 9)) ((x 10)) ((x 11)))) dX12_readTold_27 fX12_151 (Or.inl rfl) w36 (by decide) rfl rfl (Nat.le_of_ble_eq_true rfl) rfl (fun h144 a145 e146 l147 s148 => ?_)
        have f149 := (e146 37 (by decide)).trans f37
        have f150 := (e146 38 (by decide)).trans f38
        have f151 := (e146 40 (by decide)).trans f40
        have sm152 := Sm.put sm0 e146 l147 s148 (by decide)
        refine x_aload_n dX12_readTold_30 0 rfl ?_
        refine x_get (v := .int (-1)) dX12_readTold_31 fX12_151 a145 (by decide) rfl ?_
        refine x_iconst (v := (-1)) dX12_readTold_34 (by decide) ?_
        refine x_icmp_ne (tgt := 44) dX12_readTold_35 (by decide) (fun c_35 => absurd (by decide) c_35) (fun c_35 => ?_)
        refine x_aload_n dX12_readTold_38 0 rfl ?_
        refine x_iconst (v := 3) dX12_readTold_39 (by decide) ?_
        refine x_callV (rf' := 0) (rl' := 0) [.int 3] [] dX12_readTold_40 vX12_145 Y_X12_bad a145 (by decide) rfl rfl (Nat.le_of_ble_eq_true rfl) (Nat.le_of_ble_eq_true rfl) (by decide) (by decide) (c_bad (k := 3) htn hv hmt tw a145 f149 (fun z => by have := tk.k1 z; omega)) (fun r h153 e154 => ?_)
        obtain ⟨sm155, e0, m156⟩ := e154
        cases e0
        have sm155 : Sm [36] h144 h153 := sm155
        have f157 := sm155.at f149 (by decide)
        have f158 := sm155.at f150 (by decide)
        have f159 := sm155.at f151 (by decide)
        have sm160 := sm152.tr (sm155.wide (by decide))
        exact x_zret dX12_readTold_43 rfl rfl ⟨sm160, by rw [show tldF tn tv nl k i = some (3, i) from (if_pos k17).trans (if_neg hx24)]; exact ⟨rfl, m156⟩⟩
    · rw [if_neg k17]
      refine x_if_eq (tgt := 21) dX12_readTold_12 (by decide) (fun c_12 => absurd c_12 (by decide)) (fun c_12 => ?_)
      refine x_aload_n dX12_readTold_15 0 rfl ?_
      refine x_iconst (v := 1) dX12_readTold_16 (by decide) ?_
      refine x_callV (rf' := 0) (rl' := 0) [.int 1] [] dX12_readTold_17 vX12_145 Y_X12_bad f36 (by decide) rfl rfl (Nat.le_of_ble_eq_true rfl) (Nat.le_of_ble_eq_true rfl) (by decide) (by decide) (c_bad (k := 1) htn hv hmt tk f36 f37 (fun _ => rfl)) (fun r h161 e162 => ?_)
      obtain ⟨sm163, e0, m164⟩ := e162
      cases e0
      have sm163 : Sm [36] h h161 := sm163
      have f165 := sm163.at f37 (by decide)
      have f166 := sm163.at f38 (by decide)
      have f167 := sm163.at f40 (by decide)
      have sm168 := sm0.tr (sm163.wide (by decide))
      exact x_zret dX12_readTold_20 rfl rfl ⟨sm168, by rw [show tldF tn tv nl k i = some (1, i) from if_neg k17]; exact ⟨rfl, m164⟩⟩

theorem no3 {nm : Nat → Int64} {nl : NL'} {c : CN} {w : Nat} (h : NmP nm nl c) (h0 : ¬ (ixN nl w < nl.length ∧ (gN nl (ixN nl w)).1 = 0)) (h1 : ¬ (ixN nl w < nl.length ∧ (gN nl (ixN nl w)).1 = 1)) (h2 : ¬ (ixN nl w < nl.length ∧ (gN nl (ixN nl w)).1 = 2)) : ¬ ixN nl w < nl.length := fun z => by
  have := (h.2.1 _ z).1
  have a : ¬ (gN nl (ixN nl w)).1 = 0 := fun e => h0 ⟨z, e⟩
  have b : ¬ (gN nl (ixN nl w)).1 = 1 := fun e => h1 ⟨z, e⟩
  have d : ¬ (gN nl (ixN nl w)).1 = 2 := fun e => h2 ⟨z, e⟩
  omega

set_option maxRecDepth 100000 in
set_option maxHeartbeats 4000000 in
theorem c_readNameM {G : GT} {h : List PE} {tn : Nat} {tv : Nat → Nat} {mtp : Nat → Int32} {flt plc tld too frm knd num sgn : Int32} {wrd : Int64} {x : Nat → Int32} {i : Nat} (htn : tn ≤ 640) (hv : ∀ j, j < tn → tv j < 256) (hmt : ∀ j, j < tn → mtp j = nI (tv j)) (tk : TkM tn tv i too frm knd num sgn wrd) {k : Nat} {bk : Nat → Int32} {nm : Nat → Int64} {nl : NL'} {c : CN} (f36 : h[36]? = some (cO 12 (MO ((x 0)) ((x 1)) ((x 2)) ((x 3)) ((nI tn)) too frm knd num sgn flt plc wrd tld ((x 4)) ((x 5)) ((x 6)) ((x 7)) ((x 8)) ((x 9)) ((x 10)) ((x 11))))) (f37 : h[37]? = some (cI 640 mtp)) (f38 : h[38]? = some (cI 10164 bk)) (f40 : h[40]? = some (cJ 24 nm)) (hRs : ∀ k, k < 3 → bk (484 * 20 + k) = nI (cS c k)) (hnp : NmP nm nl c) (w8 : ∀ s, cS c s ≤ 8) (hk : k < 3) (hc8 : cS c k < 8) : CT G mX12_readName 3 66 [.ref 36, .int (nI k)] h (fun o => Sm [36, 40] h o.2 ∧ match newF tn tv nl i with | none => o.1 = some (.int 1) ∧ MRd o.2 tn tv (i + 1) x flt plc tld ∧ o.2[40]? = some (cJ 24 ((vp_updL nm (8 * k + cS c k) (lN (wn tn tv i))))) ∧ NmP (vp_updL nm (8 * k + cS c k) (lN (wn tn tv i))) (nl ++ [(k, cS c k, wn tn tv i)]) (cI1 c k) | some f => o.1 = some (.int 0) ∧ MBd o.2 tn tv x f ∧ Sm [36] h o.2) := by
  have sm0 : Sm [36, 40] h h := Sm.rf
  show X (NF G) G mX12_readName 3 66 0 [(0, .ref 36), (1, .int (nI k))] [] h _
  refine x_aload_n dX12_readName_0 0 rfl ?_
  refine x_get (v := .int knd) dX12_readName_1 fX12_81 f36 (by decide) rfl ?_
  refine x_iconst (v := 2) dX12_readName_4 (by decide) ?_
  refine x_icmp_ne (tgt := 15) dX12_readName_5 (by decide) (fun c_5 => ?_) (fun c_5 => ?_)
  · refine x_aload_n dX12_readName_15 0 rfl ?_
    refine x_iconst (v := 1) dX12_readName_16 (by decide) ?_
    refine x_callV (rf' := 0) (rl' := 0) [.int 1] [] dX12_readName_17 vX12_145 Y_X12_bad f36 (by decide) rfl rfl (Nat.le_of_ble_eq_true rfl) (Nat.le_of_ble_eq_true rfl) (by decide) (by decide) (c_bad (k := 1) htn hv hmt tk f36 f37 (fun _ => rfl)) (fun r h101 e102 => ?_)
    obtain ⟨sm103, e0, m104⟩ := e102
    cases e0
    have sm103 : Sm [36] h h101 := sm103
    have f105 := sm103.at f37 (by decide)
    have f106 := sm103.at f38 (by decide)
    have f107 := sm103.at f40 (by decide)
    have sm108 := sm0.tr (sm103.wide (by decide))
    exact x_zret dX12_readName_20 rfl rfl ⟨sm108, by rw [show newF tn tv nl i = some (1, i) from if_neg (fun z => c_5 (tk.k2.mpr (by omega)))]; exact ⟨rfl, m104, sm103⟩⟩
  · refine x_aload_n dX12_readName_8 0 rfl ?_
    have kw := tk.k2.mp c_5
    refine x_callV (rf' := 2) (rl' := 46) [] [] dX12_readName_9 vX12_157 Y_X12_isTaken f36 (by decide) rfl rfl (Nat.le_of_ble_eq_true rfl) (Nat.le_of_ble_eq_true rfl) (by decide) (by decide) (c_isTaken htn hv hmt tk kw f36 f37) (fun _ _ e109 => ?_)
    cases e109
    by_cases k17 : kd tn tv i = 17
    · rw [if_pos k17]
      have ew := (tk.2.2.2.1 kw).2
      have hW := (kd_word kw).1
      have w36 : h[36]? = some (cO 12 (MO ((x 0)) ((x 1)) ((x 2)) ((x 3)) ((nI tn)) too frm knd num sgn flt plc ((lN (wn tn tv i))) tld ((x 4)) ((x 5)) ((x 6)) ((x 7)) ((x 8)) ((x 9)) ((x 10)) ((x 11)))) := by rw [← ew]; exact f36
      have tw : TkM tn tv i too frm knd num sgn (lN (wn tn tv i)) := by rw [← ew]; exact tk
      refine x_if_eq (tgt := 21) dX12_readName_12 (by decide) (fun c_12 => ?_) (fun c_12 => absurd (by decide) c_12)
      refine x_aload_n dX12_readName_21 0 rfl ?_
      refine x_iconst (v := 0) dX12_readName_22 (by decide) ?_
      refine x_callV (rf' := 1) (rl' := 20) [.int 0] [] dX12_readName_23 vX12_160 Y_X12_find w36 (by decide) rfl rfl (Nat.le_of_ble_eq_true rfl) (Nat.le_of_ble_eq_true rfl) (by decide) (by decide) (c_find (k := 0) (w := wn tn tv i) (by omega) (w8 0) (hRs 0 (by omega)) w36 f38 f40) (fun _ _ e110 => ?_)
      cases e110
      rw [find_eq hnp hW (show 0 < 3 by omega)]
      by_cases hx23 : ixN nl (wn tn tv i) < nl.length ∧ (gN nl (ixN nl (wn tn tv i))).1 = 0
      · rw [if_pos hx23]
        have lk : (gN nl (ixN nl (wn tn tv i))).2.1 < 2 ^ 30 := by have a := (hnp.2.1 _ hx23.1).2.1; have b := w8 (gN nl (ixN nl (wn tn tv i))).1; omega
        refine x_iconst (v := (-1)) dX12_readName_26 (by decide) ?_
        refine x_icmp_ne (tgt := 48) dX12_readName_27 (by decide) (fun c_27 => ?_) (fun c_27 => ?_)
        · refine x_aload_n dX12_readName_48 0 rfl ?_
          refine x_iconst (v := 3) dX12_readName_49 (by decide) ?_
          refine x_callV (rf' := 0) (rl' := 0) [.int 3] [] dX12_readName_50 vX12_145 Y_X12_bad w36 (by decide) rfl rfl (Nat.le_of_ble_eq_true rfl) (Nat.le_of_ble_eq_true rfl) (by decide) (by decide) (c_bad (k := 3) htn hv hmt tw w36 f37 (fun z => by have := tk.k1 z; omega)) (fun r h111 e112 => ?_)
          obtain ⟨sm113, e0, m114⟩ := e112
          cases e0
          have sm113 : Sm [36] h h111 := sm113
          have f115 := sm113.at f37 (by decide)
          have f116 := sm113.at f38 (by decide)
          have f117 := sm113.at f40 (by decide)
          have sm118 := sm0.tr (sm113.wide (by decide))
          exact x_zret dX12_readName_53 rfl rfl ⟨sm118, by rw [show newF tn tv nl i = some (3, i) from (if_pos k17).trans (if_pos hx23.1)]; exact ⟨rfl, m114, sm113⟩⟩
        · refine x_aload_n dX12_readName_30 0 rfl ?_
          refine x_iconst (v := 1) dX12_readName_31 (by decide) ?_
          refine x_callV (rf' := 1) (rl' := 20) [.int 1] [] dX12_readName_32 vX12_160 Y_X12_find w36 (by decide) rfl rfl (Nat.le_of_ble_eq_true rfl) (Nat.le_of_ble_eq_true rfl) (by decide) (by decide) (c_find (k := 1) (w := wn tn tv i) (by omega) (w8 1) (hRs 1 (by omega)) w36 f38 f40) (fun _ _ e119 => ?_)
          cases e119
          rw [find_eq hnp hW (show 1 < 3 by omega)]
          by_cases hx32 : ixN nl (wn tn tv i) < nl.length ∧ (gN nl (ixN nl (wn tn tv i))).1 = 1
          · rw [if_pos hx32]
            have lk : (gN nl (ixN nl (wn tn tv i))).2.1 < 2 ^ 30 := by have a := (hnp.2.1 _ hx32.1).2.1; have b := w8 (gN nl (ixN nl (wn tn tv i))).1; omega
            refine x_iconst (v := (-1)) dX12_readName_35 (by decide) ?_
            refine x_icmp_ne (tgt := 48) dX12_readName_36 (by decide) (fun c_36 => ?_) (fun c_36 => ?_)
            · refine x_aload_n dX12_readName_48 0 rfl ?_
              refine x_iconst (v := 3) dX12_readName_49 (by decide) ?_
              refine x_callV (rf' := 0) (rl' := 0) [.int 3] [] dX12_readName_50 vX12_145 Y_X12_bad w36 (by decide) rfl rfl (Nat.le_of_ble_eq_true rfl) (Nat.le_of_ble_eq_true rfl) (by decide) (by decide) (c_bad (k := 3) htn hv hmt tw w36 f37 (fun z => by have := tk.k1 z; omega)) (fun r h120 e121 => ?_)
              obtain ⟨sm122, e0, m123⟩ := e121
              cases e0
              have sm122 : Sm [36] h h120 := sm122
              have f124 := sm122.at f37 (by decide)
              have f125 := sm122.at f38 (by decide)
              have f126 := sm122.at f40 (by decide)
              have sm127 := sm0.tr (sm122.wide (by decide))
              exact x_zret dX12_readName_53 rfl rfl (absurd c_27 (nI_ne_m1 (by omega)))
            · refine x_aload_n dX12_readName_39 0 rfl ?_
              refine x_iconst (v := 2) dX12_readName_40 (by decide) ?_
              refine x_callV (rf' := 1) (rl' := 20) [.int 2] [] dX12_readName_41 vX12_160 Y_X12_find w36 (by decide) rfl rfl (Nat.le_of_ble_eq_true rfl) (Nat.le_of_ble_eq_true rfl) (by decide) (by decide) (c_find (k := 2) (w := wn tn tv i) (by omega) (w8 2) (hRs 2 (by omega)) w36 f38 f40) (fun _ _ e128 => ?_)
              cases e128
              rw [find_eq hnp hW (show 2 < 3 by omega)]
              by_cases hx41 : ixN nl (wn tn tv i) < nl.length ∧ (gN nl (ixN nl (wn tn tv i))).1 = 2
              · rw [if_pos hx41]
                have lk : (gN nl (ixN nl (wn tn tv i))).2.1 < 2 ^ 30 := by have a := (hnp.2.1 _ hx41.1).2.1; have b := w8 (gN nl (ixN nl (wn tn tv i))).1; omega
                refine x_iconst (v := (-1)) dX12_readName_44 (by decide) ?_
                refine x_icmp_eq (tgt := 54) dX12_readName_45 (by decide) (fun c_45 => ?_) (fun c_45 => ?_)
                · refine x_aload_n dX12_readName_54 0 rfl ?_
                  refine x_get (v := .ref 40) dX12_readName_55 fX12_19 w36 (by decide) rfl ?_
                  refine x_bipush (v := 8) dX12_readName_58 (by decide) ?_
                  refine x_iload_n dX12_readName_60 1 rfl ?_
                  refine x_imulN (a := 8) (b := k) dX12_readName_61 ?_
                  refine x_aload_n dX12_readName_62 0 rfl ?_
                  refine x_get (v := .ref 38) dX12_readName_63 fX12_13 w36 (by decide) rfl ?_
                  refine x_bipush (v := 20) dX12_readName_66 (by decide) ?_
                  refine x_callS (rf' := 0) (rl' := 0) [.int 20] [.ref 38, .int (nI (8 * k)), .ref 40] dX12_readName_68 vX12_154 Y_X12_at rfl rfl (Nat.le_of_ble_eq_true rfl) (Nat.le_of_ble_eq_true rfl) (by decide) (by decide) (c_at (b := 20)) (fun _ _ e129 => ?_)
                  cases e129
                  refine x_iload_n dX12_readName_71 1 rfl ?_
                  refine x_iaddN (a := (484 * 20)) (b := k) dX12_readName_72 ?_
                  refine x_ialdN (i := ((484 * 20) + k)) dX12_readName_73 f38 (by decide) (by omega) (by decide) ?_
                  rw [hRs k hk]
                  refine x_iaddN (a := (8 * k)) (b := (cS c k)) dX12_readName_74 ?_
                  refine x_aload_n dX12_readName_75 0 rfl ?_
                  refine x_get (v := .long (lN (wn tn tv i))) dX12_readName_76 fX12_94 w36 (by decide) rfl ?_
                  refine x_lastN (i := ((8 * k) + (cS c k))) dX12_readName_79 f40 (by decide) (by have := w8 k; omega) (by decide) (fun h130 a131 e132 l133 s134 => ?_)
                  have f135 := (e132 36 (by decide)).trans w36
                  have f136 := (e132 37 (by decide)).trans f37
                  have f137 := (e132 38 (by decide)).trans f38
                  have sm138 := Sm.put sm0 e132 l133 s134 (by decide)
                  refine x_aload_n dX12_readName_80 0 rfl ?_
                  refine x_callV (rf' := 1) (rl' := 21) [] [] dX12_readName_81 vX12_148 Y_X12_go f135 (by decide) rfl rfl (Nat.le_of_ble_eq_true rfl) (Nat.le_of_ble_eq_true rfl) (by decide) (by decide) (c_goN htn hv hmt tw f135 f136 (by omega)) (fun r h139 e140 => ?_)
                  obtain ⟨e0, m142, sm141⟩ := e140
                  cases e0
                  have sm141 : Sm [36] h130 h139 := sm141
                  have f143 := sm141.at f136 (by decide)
                  have f144 := sm141.at f137 (by decide)
                  have f145 := sm141.at a131 (by decide)
                  have sm146 := sm138.tr (sm141.wide (by decide))
                  obtain ⟨m147, m148, m149, m150, m151, m152, f153, tk154⟩ := m142
                  have f153 : h139[36]? = some (cO 12 (MO ((x 0)) ((x 1)) ((x 2)) ((x 3)) ((nI tn)) m147 m148 m149 m150 m151 flt plc m152 tld ((x 4)) ((x 5)) ((x 6)) ((x 7)) ((x 8)) ((x 9)) ((x 10)) ((x 11)))) := f153
                  have tk154 : TkM tn tv (i + 1) m147 m148 m149 m150 m151 m152 := tk154
                  refine x_iconst (v := 1) dX12_readName_84 (by decide) ?_
                  exact x_zret dX12_readName_85 rfl rfl (absurd c_27 (nI_ne_m1 (by omega)))
                · refine x_aload_n dX12_readName_48 0 rfl ?_
                  refine x_iconst (v := 3) dX12_readName_49 (by decide) ?_
                  refine x_callV (rf' := 0) (rl' := 0) [.int 3] [] dX12_readName_50 vX12_145 Y_X12_bad w36 (by decide) rfl rfl (Nat.le_of_ble_eq_true rfl) (Nat.le_of_ble_eq_true rfl) (by decide) (by decide) (c_bad (k := 3) htn hv hmt tw w36 f37 (fun z => by have := tk.k1 z; omega)) (fun r h155 e156 => ?_)
                  obtain ⟨sm157, e0, m158⟩ := e156
                  cases e0
                  have sm157 : Sm [36] h h155 := sm157
                  have f159 := sm157.at f37 (by decide)
                  have f160 := sm157.at f38 (by decide)
                  have f161 := sm157.at f40 (by decide)
                  have sm162 := sm0.tr (sm157.wide (by decide))
                  exact x_zret dX12_readName_53 rfl rfl (absurd c_27 (nI_ne_m1 (by omega)))
              · rw [if_neg hx41]
                refine x_iconst (v := (-1)) dX12_readName_44 (by decide) ?_
                refine x_icmp_eq (tgt := 54) dX12_readName_45 (by decide) (fun c_45 => ?_) (fun c_45 => absurd (by decide) c_45)
                refine x_aload_n dX12_readName_54 0 rfl ?_
                refine x_get (v := .ref 40) dX12_readName_55 fX12_19 w36 (by decide) rfl ?_
                refine x_bipush (v := 8) dX12_readName_58 (by decide) ?_
                refine x_iload_n dX12_readName_60 1 rfl ?_
                refine x_imulN (a := 8) (b := k) dX12_readName_61 ?_
                refine x_aload_n dX12_readName_62 0 rfl ?_
                refine x_get (v := .ref 38) dX12_readName_63 fX12_13 w36 (by decide) rfl ?_
                refine x_bipush (v := 20) dX12_readName_66 (by decide) ?_
                refine x_callS (rf' := 0) (rl' := 0) [.int 20] [.ref 38, .int (nI (8 * k)), .ref 40] dX12_readName_68 vX12_154 Y_X12_at rfl rfl (Nat.le_of_ble_eq_true rfl) (Nat.le_of_ble_eq_true rfl) (by decide) (by decide) (c_at (b := 20)) (fun _ _ e163 => ?_)
                cases e163
                refine x_iload_n dX12_readName_71 1 rfl ?_
                refine x_iaddN (a := (484 * 20)) (b := k) dX12_readName_72 ?_
                refine x_ialdN (i := ((484 * 20) + k)) dX12_readName_73 f38 (by decide) (by omega) (by decide) ?_
                rw [hRs k hk]
                refine x_iaddN (a := (8 * k)) (b := (cS c k)) dX12_readName_74 ?_
                refine x_aload_n dX12_readName_75 0 rfl ?_
                refine x_get (v := .long (lN (wn tn tv i))) dX12_readName_76 fX12_94 w36 (by decide) rfl ?_
                refine x_lastN (i := ((8 * k) + (cS c k))) dX12_readName_79 f40 (by decide) (by have := w8 k; omega) (by decide) (fun h164 a165 e166 l167 s168 => ?_)
                have f169 := (e166 36 (by decide)).trans w36
                have f170 := (e166 37 (by decide)).trans f37
                have f171 := (e166 38 (by decide)).trans f38
                have sm172 := Sm.put sm0 e166 l167 s168 (by decide)
                refine x_aload_n dX12_readName_80 0 rfl ?_
                refine x_callV (rf' := 1) (rl' := 21) [] [] dX12_readName_81 vX12_148 Y_X12_go f169 (by decide) rfl rfl (Nat.le_of_ble_eq_true rfl) (Nat.le_of_ble_eq_true rfl) (by decide) (by decide) (c_goN htn hv hmt tw f169 f170 (by omega)) (fun r h173 e174 => ?_)
                obtain ⟨e0, m176, sm175⟩ := e174
                cases e0
                have sm175 : Sm [36] h164 h173 := sm175
                have f177 := sm175.at f170 (by decide)
                have f178 := sm175.at f171 (by decide)
                have f179 := sm175.at a165 (by decide)
                have sm180 := sm172.tr (sm175.wide (by decide))
                obtain ⟨m181, m182, m183, m184, m185, m186, f187, tk188⟩ := m176
                have f187 : h173[36]? = some (cO 12 (MO ((x 0)) ((x 1)) ((x 2)) ((x 3)) ((nI tn)) m181 m182 m183 m184 m185 flt plc m186 tld ((x 4)) ((x 5)) ((x 6)) ((x 7)) ((x 8)) ((x 9)) ((x 10)) ((x 11)))) := f187
                have tk188 : TkM tn tv (i + 1) m181 m182 m183 m184 m185 m186 := tk188
                refine x_iconst (v := 1) dX12_readName_84 (by decide) ?_
                exact x_zret dX12_readName_85 rfl rfl (absurd c_27 (nI_ne_m1 (by omega)))
          · rw [if_neg hx32]
            refine x_iconst (v := (-1)) dX12_readName_35 (by decide) ?_
            refine x_icmp_ne (tgt := 48) dX12_readName_36 (by decide) (fun c_36 => absurd (by decide) c_36) (fun c_36 => ?_)
            refine x_aload_n dX12_readName_39 0 rfl ?_
            refine x_iconst (v := 2) dX12_readName_40 (by decide) ?_
            refine x_callV (rf' := 1) (rl' := 20) [.int 2] [] dX12_readName_41 vX12_160 Y_X12_find w36 (by decide) rfl rfl (Nat.le_of_ble_eq_true rfl) (Nat.le_of_ble_eq_true rfl) (by decide) (by decide) (c_find (k := 2) (w := wn tn tv i) (by omega) (w8 2) (hRs 2 (by omega)) w36 f38 f40) (fun _ _ e189 => ?_)
            cases e189
            rw [find_eq hnp hW (show 2 < 3 by omega)]
            by_cases hx41 : ixN nl (wn tn tv i) < nl.length ∧ (gN nl (ixN nl (wn tn tv i))).1 = 2
            · rw [if_pos hx41]
              have lk : (gN nl (ixN nl (wn tn tv i))).2.1 < 2 ^ 30 := by have a := (hnp.2.1 _ hx41.1).2.1; have b := w8 (gN nl (ixN nl (wn tn tv i))).1; omega
              refine x_iconst (v := (-1)) dX12_readName_44 (by decide) ?_
              refine x_icmp_eq (tgt := 54) dX12_readName_45 (by decide) (fun c_45 => ?_) (fun c_45 => ?_)
              · refine x_aload_n dX12_readName_54 0 rfl ?_
                refine x_get (v := .ref 40) dX12_readName_55 fX12_19 w36 (by decide) rfl ?_
                refine x_bipush (v := 8) dX12_readName_58 (by decide) ?_
                refine x_iload_n dX12_readName_60 1 rfl ?_
                refine x_imulN (a := 8) (b := k) dX12_readName_61 ?_
                refine x_aload_n dX12_readName_62 0 rfl ?_
                refine x_get (v := .ref 38) dX12_readName_63 fX12_13 w36 (by decide) rfl ?_
                refine x_bipush (v := 20) dX12_readName_66 (by decide) ?_
                refine x_callS (rf' := 0) (rl' := 0) [.int 20] [.ref 38, .int (nI (8 * k)), .ref 40] dX12_readName_68 vX12_154 Y_X12_at rfl rfl (Nat.le_of_ble_eq_true rfl) (Nat.le_of_ble_eq_true rfl) (by decide) (by decide) (c_at (b := 20)) (fun _ _ e190 => ?_)
                cases e190
                refine x_iload_n dX12_readName_71 1 rfl ?_
                refine x_iaddN (a := (484 * 20)) (b := k) dX12_readName_72 ?_
                refine x_ialdN (i := ((484 * 20) + k)) dX12_readName_73 f38 (by decide) (by omega) (by decide) ?_
                rw [hRs k hk]
                refine x_iaddN (a := (8 * k)) (b := (cS c k)) dX12_readName_74 ?_
                refine x_aload_n dX12_readName_75 0 rfl ?_
                refine x_get (v := .long (lN (wn tn tv i))) dX12_readName_76 fX12_94 w36 (by decide) rfl ?_
                refine x_lastN (i := ((8 * k) + (cS c k))) dX12_readName_79 f40 (by decide) (by have := w8 k; omega) (by decide) (fun h191 a192 e193 l194 s195 => ?_)
                have f196 := (e193 36 (by decide)).trans w36
                have f197 := (e193 37 (by decide)).trans f37
                have f198 := (e193 38 (by decide)).trans f38
                have sm199 := Sm.put sm0 e193 l194 s195 (by decide)
                refine x_aload_n dX12_readName_80 0 rfl ?_
                refine x_callV (rf' := 1) (rl' := 21) [] [] dX12_readName_81 vX12_148 Y_X12_go f196 (by decide) rfl rfl (Nat.le_of_ble_eq_true rfl) (Nat.le_of_ble_eq_true rfl) (by decide) (by decide) (c_goN htn hv hmt tw f196 f197 (by omega)) (fun r h200 e201 => ?_)
                obtain ⟨e0, m203, sm202⟩ := e201
                cases e0
                have sm202 : Sm [36] h191 h200 := sm202
                have f204 := sm202.at f197 (by decide)
                have f205 := sm202.at f198 (by decide)
                have f206 := sm202.at a192 (by decide)
                have sm207 := sm199.tr (sm202.wide (by decide))
                obtain ⟨m208, m209, m210, m211, m212, m213, f214, tk215⟩ := m203
                have f214 : h200[36]? = some (cO 12 (MO ((x 0)) ((x 1)) ((x 2)) ((x 3)) ((nI tn)) m208 m209 m210 m211 m212 flt plc m213 tld ((x 4)) ((x 5)) ((x 6)) ((x 7)) ((x 8)) ((x 9)) ((x 10)) ((x 11)))) := f214
                have tk215 : TkM tn tv (i + 1) m208 m209 m210 m211 m212 m213 := tk215
                refine x_iconst (v := 1) dX12_readName_84 (by decide) ?_
                exact x_zret dX12_readName_85 rfl rfl (absurd c_27 (nI_ne_m1 (by omega)))
              · refine x_aload_n dX12_readName_48 0 rfl ?_
                refine x_iconst (v := 3) dX12_readName_49 (by decide) ?_
                refine x_callV (rf' := 0) (rl' := 0) [.int 3] [] dX12_readName_50 vX12_145 Y_X12_bad w36 (by decide) rfl rfl (Nat.le_of_ble_eq_true rfl) (Nat.le_of_ble_eq_true rfl) (by decide) (by decide) (c_bad (k := 3) htn hv hmt tw w36 f37 (fun z => by have := tk.k1 z; omega)) (fun r h216 e217 => ?_)
                obtain ⟨sm218, e0, m219⟩ := e217
                cases e0
                have sm218 : Sm [36] h h216 := sm218
                have f220 := sm218.at f37 (by decide)
                have f221 := sm218.at f38 (by decide)
                have f222 := sm218.at f40 (by decide)
                have sm223 := sm0.tr (sm218.wide (by decide))
                exact x_zret dX12_readName_53 rfl rfl (absurd c_27 (nI_ne_m1 (by omega)))
            · rw [if_neg hx41]
              refine x_iconst (v := (-1)) dX12_readName_44 (by decide) ?_
              refine x_icmp_eq (tgt := 54) dX12_readName_45 (by decide) (fun c_45 => ?_) (fun c_45 => absurd (by decide) c_45)
              refine x_aload_n dX12_readName_54 0 rfl ?_
              refine x_get (v := .ref 40) dX12_readName_55 fX12_19 w36 (by decide) rfl ?_
              refine x_bipush (v := 8) dX12_readName_58 (by decide) ?_
              refine x_iload_n dX12_readName_60 1 rfl ?_
              refine x_imulN (a := 8) (b := k) dX12_readName_61 ?_
              refine x_aload_n dX12_readName_62 0 rfl ?_
              refine x_get (v := .ref 38) dX12_readName_63 fX12_13 w36 (by decide) rfl ?_
              refine x_bipush (v := 20) dX12_readName_66 (by decide) ?_
              refine x_callS (rf' := 0) (rl' := 0) [.int 20] [.ref 38, .int (nI (8 * k)), .ref 40] dX12_readName_68 vX12_154 Y_X12_at rfl rfl (Nat.le_of_ble_eq_true rfl) (Nat.le_of_ble_eq_true rfl) (by decide) (by decide) (c_at (b := 20)) (fun _ _ e224 => ?_)
              cases e224
              refine x_iload_n dX12_readName_71 1 rfl ?_
              refine x_iaddN (a := (484 * 20)) (b := k) dX12_readName_72 ?_
              refine x_ialdN (i := ((484 * 20) + k)) dX12_readName_73 f38 (by decide) (by omega) (by decide) ?_
              rw [hRs k hk]
              refine x_iaddN (a := (8 * k)) (b := (cS c k)) dX12_readName_74 ?_
              refine x_aload_n dX12_readName_75 0 rfl ?_
              refine x_get (v := .long (lN (wn tn tv i))) dX12_readName_76 fX12_94 w36 (by decide) rfl ?_
              refine x_lastN (i := ((8 * k) + (cS c k))) dX12_readName_79 f40 (by decide) (by have := w8 k; omega) (by decide) (fun h225 a226 e227 l228 s229 => ?_)
              have f230 := (e227 36 (by decide)).trans w36
              have f231 := (e227 37 (by decide)).trans f37
              have f232 := (e227 38 (by decide)).trans f38
              have sm233 := Sm.put sm0 e227 l228 s229 (by decide)
              refine x_aload_n dX12_readName_80 0 rfl ?_
              refine x_callV (rf' := 1) (rl' := 21) [] [] dX12_readName_81 vX12_148 Y_X12_go f230 (by decide) rfl rfl (Nat.le_of_ble_eq_true rfl) (Nat.le_of_ble_eq_true rfl) (by decide) (by decide) (c_goN htn hv hmt tw f230 f231 (by omega)) (fun r h234 e235 => ?_)
              obtain ⟨e0, m237, sm236⟩ := e235
              cases e0
              have sm236 : Sm [36] h225 h234 := sm236
              have f238 := sm236.at f231 (by decide)
              have f239 := sm236.at f232 (by decide)
              have f240 := sm236.at a226 (by decide)
              have sm241 := sm233.tr (sm236.wide (by decide))
              obtain ⟨m242, m243, m244, m245, m246, m247, f248, tk249⟩ := m237
              have f248 : h234[36]? = some (cO 12 (MO ((x 0)) ((x 1)) ((x 2)) ((x 3)) ((nI tn)) m242 m243 m244 m245 m246 flt plc m247 tld ((x 4)) ((x 5)) ((x 6)) ((x 7)) ((x 8)) ((x 9)) ((x 10)) ((x 11)))) := f248
              have tk249 : TkM tn tv (i + 1) m242 m243 m244 m245 m246 m247 := tk249
              refine x_iconst (v := 1) dX12_readName_84 (by decide) ?_
              exact x_zret dX12_readName_85 rfl rfl (absurd c_27 (nI_ne_m1 (by omega)))
      · rw [if_neg hx23]
        refine x_iconst (v := (-1)) dX12_readName_26 (by decide) ?_
        refine x_icmp_ne (tgt := 48) dX12_readName_27 (by decide) (fun c_27 => absurd (by decide) c_27) (fun c_27 => ?_)
        refine x_aload_n dX12_readName_30 0 rfl ?_
        refine x_iconst (v := 1) dX12_readName_31 (by decide) ?_
        refine x_callV (rf' := 1) (rl' := 20) [.int 1] [] dX12_readName_32 vX12_160 Y_X12_find w36 (by decide) rfl rfl (Nat.le_of_ble_eq_true rfl) (Nat.le_of_ble_eq_true rfl) (by decide) (by decide) (c_find (k := 1) (w := wn tn tv i) (by omega) (w8 1) (hRs 1 (by omega)) w36 f38 f40) (fun _ _ e250 => ?_)
        cases e250
        rw [find_eq hnp hW (show 1 < 3 by omega)]
        by_cases hx32 : ixN nl (wn tn tv i) < nl.length ∧ (gN nl (ixN nl (wn tn tv i))).1 = 1
        · rw [if_pos hx32]
          have lk : (gN nl (ixN nl (wn tn tv i))).2.1 < 2 ^ 30 := by have a := (hnp.2.1 _ hx32.1).2.1; have b := w8 (gN nl (ixN nl (wn tn tv i))).1; omega
          refine x_iconst (v := (-1)) dX12_readName_35 (by decide) ?_
          refine x_icmp_ne (tgt := 48) dX12_readName_36 (by decide) (fun c_36 => ?_) (fun c_36 => ?_)
          · refine x_aload_n dX12_readName_48 0 rfl ?_
            refine x_iconst (v := 3) dX12_readName_49 (by decide) ?_
            refine x_callV (rf' := 0) (rl' := 0) [.int 3] [] dX12_readName_50 vX12_145 Y_X12_bad w36 (by decide) rfl rfl (Nat.le_of_ble_eq_true rfl) (Nat.le_of_ble_eq_true rfl) (by decide) (by decide) (c_bad (k := 3) htn hv hmt tw w36 f37 (fun z => by have := tk.k1 z; omega)) (fun r h251 e252 => ?_)
            obtain ⟨sm253, e0, m254⟩ := e252
            cases e0
            have sm253 : Sm [36] h h251 := sm253
            have f255 := sm253.at f37 (by decide)
            have f256 := sm253.at f38 (by decide)
            have f257 := sm253.at f40 (by decide)
            have sm258 := sm0.tr (sm253.wide (by decide))
            exact x_zret dX12_readName_53 rfl rfl ⟨sm258, by rw [show newF tn tv nl i = some (3, i) from (if_pos k17).trans (if_pos hx32.1)]; exact ⟨rfl, m254, sm253⟩⟩
          · refine x_aload_n dX12_readName_39 0 rfl ?_
            refine x_iconst (v := 2) dX12_readName_40 (by decide) ?_
            refine x_callV (rf' := 1) (rl' := 20) [.int 2] [] dX12_readName_41 vX12_160 Y_X12_find w36 (by decide) rfl rfl (Nat.le_of_ble_eq_true rfl) (Nat.le_of_ble_eq_true rfl) (by decide) (by decide) (c_find (k := 2) (w := wn tn tv i) (by omega) (w8 2) (hRs 2 (by omega)) w36 f38 f40) (fun _ _ e259 => ?_)
            cases e259
            rw [find_eq hnp hW (show 2 < 3 by omega)]
            by_cases hx41 : ixN nl (wn tn tv i) < nl.length ∧ (gN nl (ixN nl (wn tn tv i))).1 = 2
            · rw [if_pos hx41]
              have lk : (gN nl (ixN nl (wn tn tv i))).2.1 < 2 ^ 30 := by have a := (hnp.2.1 _ hx41.1).2.1; have b := w8 (gN nl (ixN nl (wn tn tv i))).1; omega
              refine x_iconst (v := (-1)) dX12_readName_44 (by decide) ?_
              refine x_icmp_eq (tgt := 54) dX12_readName_45 (by decide) (fun c_45 => ?_) (fun c_45 => ?_)
              · refine x_aload_n dX12_readName_54 0 rfl ?_
                refine x_get (v := .ref 40) dX12_readName_55 fX12_19 w36 (by decide) rfl ?_
                refine x_bipush (v := 8) dX12_readName_58 (by decide) ?_
                refine x_iload_n dX12_readName_60 1 rfl ?_
                refine x_imulN (a := 8) (b := k) dX12_readName_61 ?_
                refine x_aload_n dX12_readName_62 0 rfl ?_
                refine x_get (v := .ref 38) dX12_readName_63 fX12_13 w36 (by decide) rfl ?_
                refine x_bipush (v := 20) dX12_readName_66 (by decide) ?_
                refine x_callS (rf' := 0) (rl' := 0) [.int 20] [.ref 38, .int (nI (8 * k)), .ref 40] dX12_readName_68 vX12_154 Y_X12_at rfl rfl (Nat.le_of_ble_eq_true rfl) (Nat.le_of_ble_eq_true rfl) (by decide) (by decide) (c_at (b := 20)) (fun _ _ e260 => ?_)
                cases e260
                refine x_iload_n dX12_readName_71 1 rfl ?_
                refine x_iaddN (a := (484 * 20)) (b := k) dX12_readName_72 ?_
                refine x_ialdN (i := ((484 * 20) + k)) dX12_readName_73 f38 (by decide) (by omega) (by decide) ?_
                rw [hRs k hk]
                refine x_iaddN (a := (8 * k)) (b := (cS c k)) dX12_readName_74 ?_
                refine x_aload_n dX12_readName_75 0 rfl ?_
                refine x_get (v := .long (lN (wn tn tv i))) dX12_readName_76 fX12_94 w36 (by decide) rfl ?_
                refine x_lastN (i := ((8 * k) + (cS c k))) dX12_readName_79 f40 (by decide) (by have := w8 k; omega) (by decide) (fun h261 a262 e263 l264 s265 => ?_)
                have f266 := (e263 36 (by decide)).trans w36
                have f267 := (e263 37 (by decide)).trans f37
                have f268 := (e263 38 (by decide)).trans f38
                have sm269 := Sm.put sm0 e263 l264 s265 (by decide)
                refine x_aload_n dX12_readName_80 0 rfl ?_
                refine x_callV (rf' := 1) (rl' := 21) [] [] dX12_readName_81 vX12_148 Y_X12_go f266 (by decide) rfl rfl (Nat.le_of_ble_eq_true rfl) (Nat.le_of_ble_eq_true rfl) (by decide) (by decide) (c_goN htn hv hmt tw f266 f267 (by omega)) (fun r h270 e271 => ?_)
                obtain ⟨e0, m273, sm272⟩ := e271
                cases e0
                have sm272 : Sm [36] h261 h270 := sm272
                have f274 := sm272.at f267 (by decide)
                have f275 := sm272.at f268 (by decide)
                have f276 := sm272.at a262 (by decide)
                have sm277 := sm269.tr (sm272.wide (by decide))
                obtain ⟨m278, m279, m280, m281, m282, m283, f284, tk285⟩ := m273
                have f284 : h270[36]? = some (cO 12 (MO ((x 0)) ((x 1)) ((x 2)) ((x 3)) ((nI tn)) m278 m279 m280 m281 m282 flt plc m283 tld ((x 4)) ((x 5)) ((x 6)) ((x 7)) ((x 8)) ((x 9)) ((x 10)) ((x 11)))) := f284
                have tk285 : TkM tn tv (i + 1) m278 m279 m280 m281 m282 m283 := tk285
                refine x_iconst (v := 1) dX12_readName_84 (by decide) ?_
                exact x_zret dX12_readName_85 rfl rfl (absurd c_36 (nI_ne_m1 (by omega)))
              · refine x_aload_n dX12_readName_48 0 rfl ?_
                refine x_iconst (v := 3) dX12_readName_49 (by decide) ?_
                refine x_callV (rf' := 0) (rl' := 0) [.int 3] [] dX12_readName_50 vX12_145 Y_X12_bad w36 (by decide) rfl rfl (Nat.le_of_ble_eq_true rfl) (Nat.le_of_ble_eq_true rfl) (by decide) (by decide) (c_bad (k := 3) htn hv hmt tw w36 f37 (fun z => by have := tk.k1 z; omega)) (fun r h286 e287 => ?_)
                obtain ⟨sm288, e0, m289⟩ := e287
                cases e0
                have sm288 : Sm [36] h h286 := sm288
                have f290 := sm288.at f37 (by decide)
                have f291 := sm288.at f38 (by decide)
                have f292 := sm288.at f40 (by decide)
                have sm293 := sm0.tr (sm288.wide (by decide))
                exact x_zret dX12_readName_53 rfl rfl (absurd c_36 (nI_ne_m1 (by omega)))
            · rw [if_neg hx41]
              refine x_iconst (v := (-1)) dX12_readName_44 (by decide) ?_
              refine x_icmp_eq (tgt := 54) dX12_readName_45 (by decide) (fun c_45 => ?_) (fun c_45 => absurd (by decide) c_45)
              refine x_aload_n dX12_readName_54 0 rfl ?_
              refine x_get (v := .ref 40) dX12_readName_55 fX12_19 w36 (by decide) rfl ?_
              refine x_bipush (v := 8) dX12_readName_58 (by decide) ?_
              refine x_iload_n dX12_readName_60 1 rfl ?_
              refine x_imulN (a := 8) (b := k) dX12_readName_61 ?_
              refine x_aload_n dX12_readName_62 0 rfl ?_
              refine x_get (v := .ref 38) dX12_readName_63 fX12_13 w36 (by decide) rfl ?_
              refine x_bipush (v := 20) dX12_readName_66 (by decide) ?_
              refine x_callS (rf' := 0) (rl' := 0) [.int 20] [.ref 38, .int (nI (8 * k)), .ref 40] dX12_readName_68 vX12_154 Y_X12_at rfl rfl (Nat.le_of_ble_eq_true rfl) (Nat.le_of_ble_eq_true rfl) (by decide) (by decide) (c_at (b := 20)) (fun _ _ e294 => ?_)
              cases e294
              refine x_iload_n dX12_readName_71 1 rfl ?_
              refine x_iaddN (a := (484 * 20)) (b := k) dX12_readName_72 ?_
              refine x_ialdN (i := ((484 * 20) + k)) dX12_readName_73 f38 (by decide) (by omega) (by decide) ?_
              rw [hRs k hk]
              refine x_iaddN (a := (8 * k)) (b := (cS c k)) dX12_readName_74 ?_
              refine x_aload_n dX12_readName_75 0 rfl ?_
              refine x_get (v := .long (lN (wn tn tv i))) dX12_readName_76 fX12_94 w36 (by decide) rfl ?_
              refine x_lastN (i := ((8 * k) + (cS c k))) dX12_readName_79 f40 (by decide) (by have := w8 k; omega) (by decide) (fun h295 a296 e297 l298 s299 => ?_)
              have f300 := (e297 36 (by decide)).trans w36
              have f301 := (e297 37 (by decide)).trans f37
              have f302 := (e297 38 (by decide)).trans f38
              have sm303 := Sm.put sm0 e297 l298 s299 (by decide)
              refine x_aload_n dX12_readName_80 0 rfl ?_
              refine x_callV (rf' := 1) (rl' := 21) [] [] dX12_readName_81 vX12_148 Y_X12_go f300 (by decide) rfl rfl (Nat.le_of_ble_eq_true rfl) (Nat.le_of_ble_eq_true rfl) (by decide) (by decide) (c_goN htn hv hmt tw f300 f301 (by omega)) (fun r h304 e305 => ?_)
              obtain ⟨e0, m307, sm306⟩ := e305
              cases e0
              have sm306 : Sm [36] h295 h304 := sm306
              have f308 := sm306.at f301 (by decide)
              have f309 := sm306.at f302 (by decide)
              have f310 := sm306.at a296 (by decide)
              have sm311 := sm303.tr (sm306.wide (by decide))
              obtain ⟨m312, m313, m314, m315, m316, m317, f318, tk319⟩ := m307
              have f318 : h304[36]? = some (cO 12 (MO ((x 0)) ((x 1)) ((x 2)) ((x 3)) ((nI tn)) m312 m313 m314 m315 m316 flt plc m317 tld ((x 4)) ((x 5)) ((x 6)) ((x 7)) ((x 8)) ((x 9)) ((x 10)) ((x 11)))) := f318
              have tk319 : TkM tn tv (i + 1) m312 m313 m314 m315 m316 m317 := tk319
              refine x_iconst (v := 1) dX12_readName_84 (by decide) ?_
              exact x_zret dX12_readName_85 rfl rfl (absurd c_36 (nI_ne_m1 (by omega)))
        · rw [if_neg hx32]
          refine x_iconst (v := (-1)) dX12_readName_35 (by decide) ?_
          refine x_icmp_ne (tgt := 48) dX12_readName_36 (by decide) (fun c_36 => absurd (by decide) c_36) (fun c_36 => ?_)
          refine x_aload_n dX12_readName_39 0 rfl ?_
          refine x_iconst (v := 2) dX12_readName_40 (by decide) ?_
          refine x_callV (rf' := 1) (rl' := 20) [.int 2] [] dX12_readName_41 vX12_160 Y_X12_find w36 (by decide) rfl rfl (Nat.le_of_ble_eq_true rfl) (Nat.le_of_ble_eq_true rfl) (by decide) (by decide) (c_find (k := 2) (w := wn tn tv i) (by omega) (w8 2) (hRs 2 (by omega)) w36 f38 f40) (fun _ _ e320 => ?_)
          cases e320
          rw [find_eq hnp hW (show 2 < 3 by omega)]
          by_cases hx41 : ixN nl (wn tn tv i) < nl.length ∧ (gN nl (ixN nl (wn tn tv i))).1 = 2
          · rw [if_pos hx41]
            have lk : (gN nl (ixN nl (wn tn tv i))).2.1 < 2 ^ 30 := by have a := (hnp.2.1 _ hx41.1).2.1; have b := w8 (gN nl (ixN nl (wn tn tv i))).1; omega
            refine x_iconst (v := (-1)) dX12_readName_44 (by decide) ?_
            refine x_icmp_eq (tgt := 54) dX12_readName_45 (by decide) (fun c_45 => ?_) (fun c_45 => ?_)
            · refine x_aload_n dX12_readName_54 0 rfl ?_
              refine x_get (v := .ref 40) dX12_readName_55 fX12_19 w36 (by decide) rfl ?_
              refine x_bipush (v := 8) dX12_readName_58 (by decide) ?_
              refine x_iload_n dX12_readName_60 1 rfl ?_
              refine x_imulN (a := 8) (b := k) dX12_readName_61 ?_
              refine x_aload_n dX12_readName_62 0 rfl ?_
              refine x_get (v := .ref 38) dX12_readName_63 fX12_13 w36 (by decide) rfl ?_
              refine x_bipush (v := 20) dX12_readName_66 (by decide) ?_
              refine x_callS (rf' := 0) (rl' := 0) [.int 20] [.ref 38, .int (nI (8 * k)), .ref 40] dX12_readName_68 vX12_154 Y_X12_at rfl rfl (Nat.le_of_ble_eq_true rfl) (Nat.le_of_ble_eq_true rfl) (by decide) (by decide) (c_at (b := 20)) (fun _ _ e321 => ?_)
              cases e321
              refine x_iload_n dX12_readName_71 1 rfl ?_
              refine x_iaddN (a := (484 * 20)) (b := k) dX12_readName_72 ?_
              refine x_ialdN (i := ((484 * 20) + k)) dX12_readName_73 f38 (by decide) (by omega) (by decide) ?_
              rw [hRs k hk]
              refine x_iaddN (a := (8 * k)) (b := (cS c k)) dX12_readName_74 ?_
              refine x_aload_n dX12_readName_75 0 rfl ?_
              refine x_get (v := .long (lN (wn tn tv i))) dX12_readName_76 fX12_94 w36 (by decide) rfl ?_
              refine x_lastN (i := ((8 * k) + (cS c k))) dX12_readName_79 f40 (by decide) (by have := w8 k; omega) (by decide) (fun h322 a323 e324 l325 s326 => ?_)
              have f327 := (e324 36 (by decide)).trans w36
              have f328 := (e324 37 (by decide)).trans f37
              have f329 := (e324 38 (by decide)).trans f38
              have sm330 := Sm.put sm0 e324 l325 s326 (by decide)
              refine x_aload_n dX12_readName_80 0 rfl ?_
              refine x_callV (rf' := 1) (rl' := 21) [] [] dX12_readName_81 vX12_148 Y_X12_go f327 (by decide) rfl rfl (Nat.le_of_ble_eq_true rfl) (Nat.le_of_ble_eq_true rfl) (by decide) (by decide) (c_goN htn hv hmt tw f327 f328 (by omega)) (fun r h331 e332 => ?_)
              obtain ⟨e0, m334, sm333⟩ := e332
              cases e0
              have sm333 : Sm [36] h322 h331 := sm333
              have f335 := sm333.at f328 (by decide)
              have f336 := sm333.at f329 (by decide)
              have f337 := sm333.at a323 (by decide)
              have sm338 := sm330.tr (sm333.wide (by decide))
              obtain ⟨m339, m340, m341, m342, m343, m344, f345, tk346⟩ := m334
              have f345 : h331[36]? = some (cO 12 (MO ((x 0)) ((x 1)) ((x 2)) ((x 3)) ((nI tn)) m339 m340 m341 m342 m343 flt plc m344 tld ((x 4)) ((x 5)) ((x 6)) ((x 7)) ((x 8)) ((x 9)) ((x 10)) ((x 11)))) := f345
              have tk346 : TkM tn tv (i + 1) m339 m340 m341 m342 m343 m344 := tk346
              refine x_iconst (v := 1) dX12_readName_84 (by decide) ?_
              exact x_zret dX12_readName_85 rfl rfl (absurd c_45 (nI_ne_m1 (by omega)))
            · refine x_aload_n dX12_readName_48 0 rfl ?_
              refine x_iconst (v := 3) dX12_readName_49 (by decide) ?_
              refine x_callV (rf' := 0) (rl' := 0) [.int 3] [] dX12_readName_50 vX12_145 Y_X12_bad w36 (by decide) rfl rfl (Nat.le_of_ble_eq_true rfl) (Nat.le_of_ble_eq_true rfl) (by decide) (by decide) (c_bad (k := 3) htn hv hmt tw w36 f37 (fun z => by have := tk.k1 z; omega)) (fun r h347 e348 => ?_)
              obtain ⟨sm349, e0, m350⟩ := e348
              cases e0
              have sm349 : Sm [36] h h347 := sm349
              have f351 := sm349.at f37 (by decide)
              have f352 := sm349.at f38 (by decide)
              have f353 := sm349.at f40 (by decide)
              have sm354 := sm0.tr (sm349.wide (by decide))
              exact x_zret dX12_readName_53 rfl rfl ⟨sm354, by rw [show newF tn tv nl i = some (3, i) from (if_pos k17).trans (if_pos hx41.1)]; exact ⟨rfl, m350, sm349⟩⟩
          · rw [if_neg hx41]
            refine x_iconst (v := (-1)) dX12_readName_44 (by decide) ?_
            refine x_icmp_eq (tgt := 54) dX12_readName_45 (by decide) (fun c_45 => ?_) (fun c_45 => absurd (by decide) c_45)
            refine x_aload_n dX12_readName_54 0 rfl ?_
            refine x_get (v := .ref 40) dX12_readName_55 fX12_19 w36 (by decide) rfl ?_
            refine x_bipush (v := 8) dX12_readName_58 (by decide) ?_
            refine x_iload_n dX12_readName_60 1 rfl ?_
            refine x_imulN (a := 8) (b := k) dX12_readName_61 ?_
            refine x_aload_n dX12_readName_62 0 rfl ?_
            refine x_get (v := .ref 38) dX12_readName_63 fX12_13 w36 (by decide) rfl ?_
            refine x_bipush (v := 20) dX12_readName_66 (by decide) ?_
            refine x_callS (rf' := 0) (rl' := 0) [.int 20] [.ref 38, .int (nI (8 * k)), .ref 40] dX12_readName_68 vX12_154 Y_X12_at rfl rfl (Nat.le_of_ble_eq_true rfl) (Nat.le_of_ble_eq_true rfl) (by decide) (by decide) (c_at (b := 20)) (fun _ _ e355 => ?_)
            cases e355
            refine x_iload_n dX12_readName_71 1 rfl ?_
            refine x_iaddN (a := (484 * 20)) (b := k) dX12_readName_72 ?_
            refine x_ialdN (i := ((484 * 20) + k)) dX12_readName_73 f38 (by decide) (by omega) (by decide) ?_
            rw [hRs k hk]
            refine x_iaddN (a := (8 * k)) (b := (cS c k)) dX12_readName_74 ?_
            refine x_aload_n dX12_readName_75 0 rfl ?_
            refine x_get (v := .long (lN (wn tn tv i))) dX12_readName_76 fX12_94 w36 (by decide) rfl ?_
            refine x_lastN (i := ((8 * k) + (cS c k))) dX12_readName_79 f40 (by decide) (by have := w8 k; omega) (by decide) (fun h356 a357 e358 l359 s360 => ?_)
            have f361 := (e358 36 (by decide)).trans w36
            have f362 := (e358 37 (by decide)).trans f37
            have f363 := (e358 38 (by decide)).trans f38
            have sm364 := Sm.put sm0 e358 l359 s360 (by decide)
            refine x_aload_n dX12_readName_80 0 rfl ?_
            refine x_callV (rf' := 1) (rl' := 21) [] [] dX12_readName_81 vX12_148 Y_X12_go f361 (by decide) rfl rfl (Nat.le_of_ble_eq_true rfl) (Nat.le_of_ble_eq_true rfl) (by decide) (by decide) (c_goN htn hv hmt tw f361 f362 (by omega)) (fun r h365 e366 => ?_)
            obtain ⟨e0, m368, sm367⟩ := e366
            cases e0
            have sm367 : Sm [36] h356 h365 := sm367
            have f369 := sm367.at f362 (by decide)
            have f370 := sm367.at f363 (by decide)
            have f371 := sm367.at a357 (by decide)
            have sm372 := sm364.tr (sm367.wide (by decide))
            obtain ⟨m373, m374, m375, m376, m377, m378, f379, tk380⟩ := m368
            have f379 : h365[36]? = some (cO 12 (MO ((x 0)) ((x 1)) ((x 2)) ((x 3)) ((nI tn)) m373 m374 m375 m376 m377 flt plc m378 tld ((x 4)) ((x 5)) ((x 6)) ((x 7)) ((x 8)) ((x 9)) ((x 10)) ((x 11)))) := f379
            have tk380 : TkM tn tv (i + 1) m373 m374 m375 m376 m377 m378 := tk380
            refine x_iconst (v := 1) dX12_readName_84 (by decide) ?_
            exact x_zret dX12_readName_85 rfl rfl ⟨sm372, by rw [show newF tn tv nl i = none from (if_pos k17).trans (if_neg (no3 hnp hx23 hx32 hx41))]; exact ⟨rfl, ⟨_, _, _, _, _, _, f379, tk380⟩, f371, NmP.add hnp hW hk w8 hc8 (no3 hnp hx23 hx32 hx41)⟩⟩
    · rw [if_neg k17]
      refine x_if_eq (tgt := 21) dX12_readName_12 (by decide) (fun c_12 => absurd c_12 (by decide)) (fun c_12 => ?_)
      refine x_aload_n dX12_readName_15 0 rfl ?_
      refine x_iconst (v := 1) dX12_readName_16 (by decide) ?_
      refine x_callV (rf' := 0) (rl' := 0) [.int 1] [] dX12_readName_17 vX12_145 Y_X12_bad f36 (by decide) rfl rfl (Nat.le_of_ble_eq_true rfl) (Nat.le_of_ble_eq_true rfl) (by decide) (by decide) (c_bad (k := 1) htn hv hmt tk f36 f37 (fun _ => rfl)) (fun r h381 e382 => ?_)
      obtain ⟨sm383, e0, m384⟩ := e382
      cases e0
      have sm383 : Sm [36] h h381 := sm383
      have f385 := sm383.at f37 (by decide)
      have f386 := sm383.at f38 (by decide)
      have f387 := sm383.at f40 (by decide)
      have sm388 := sm0.tr (sm383.wide (by decide))
      exact x_zret dX12_readName_20 rfl rfl ⟨sm388, by rw [show newF tn tv nl i = some (1, i) from if_neg k17]; exact ⟨rfl, m384, sm383⟩⟩

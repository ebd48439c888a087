/-! ===== LINE after LINE ===== -/
/-- before the TOKEN i: the NAMES, the counts, the record -/
abbrev SG : Type := Nat × NL' × CN × (Nat → Int32)
def lnF (tn : Nat) (tv : Nat → Nat) (s : SG) : Option (Nat × Nat) := if kd tn tv s.1 = 0 then fomF tn tv s.2.1 s.2.2.1.1 s.1 else if kd tn tv s.1 = 1 then thgF tn tv s.2.1 s.2.2.1.2.1 s.1 else if kd tn tv s.1 = 2 then boxF tn tv s.2.1 s.2.2.1.2.2.1 s.1 else if kd tn tv s.1 = 3 then padF tn tv s.2.1 s.1 s.2.2.2 else if kd tn tv s.1 = 4 then drpF tn tv s.2.1 s.2.2.1.2.2.2 s.1 else some (1, s.1)
def lnS (tn : Nat) (tv : Nat → Nat) (s : SG) : SG := if kd tn tv s.1 = 0 then (s.1 + 6 + 3 * fomN tn tv s.1, s.2.1 ++ [(0, s.2.2.1.1, wn tn tv (s.1 + 1))], (s.2.2.1.1 + 1, s.2.2.1.2.1, s.2.2.1.2.2.1, s.2.2.1.2.2.2), fomR tn tv s.2.2.1.1 s.1 s.2.2.2)
  else if kd tn tv s.1 = 1 then (s.1 + 10, s.2.1 ++ [(1, s.2.2.1.2.1, wn tn tv (s.1 + 1))], (s.2.2.1.1, s.2.2.1.2.1 + 1, s.2.2.1.2.2.1, s.2.2.1.2.2.2), thgR tn tv s.2.2.1.2.1 s.1 s.2.2.2)
  else if kd tn tv s.1 = 2 then (s.1 + 10, s.2.1 ++ [(2, s.2.2.1.2.2.1, wn tn tv (s.1 + 1))], (s.2.2.1.1, s.2.2.1.2.1, s.2.2.1.2.2.1 + 1, s.2.2.1.2.2.2), boxR tn tv s.2.2.1.2.2.1 s.1 s.2.2.2)
  else if kd tn tv s.1 = 3 then (s.1 + 9, s.2.1, s.2.2.1, padR tn tv s.2.1 s.1 s.2.2.2)
  else (drpI tn tv s.1, s.2.1, (s.2.2.1.1, s.2.2.1.2.1, s.2.2.1.2.2.1, s.2.2.1.2.2.2 + 1), drpR tn tv s.2.1 s.2.2.1.2.2.2 s.1 s.2.2.2)
def SgOk (s : SG) : Prop := WFk s.2.2.2 s.2.2.1 ∧ NlOk s.2.1 s.2.2.1
abbrev csN (c : CN) : Nat := c.1 + c.2.1 + c.2.2.1 + c.2.2.2
theorem SgOk.cs {s : SG} (h : SgOk s) : csN s.2.2.1 ≤ 44 := by
  have a := h.1.2.1
  have b := h.1.2.2.2.1
  have c := h.1.2.2.2.2.2.1
  have d := h.1.2.2.2.2.2.2.2.1
  unfold csN
  omega
theorem lnS_ok {tn : Nat} {tv : Nat → Nat} {s : SG} (h : SgOk s) (e : lnF tn tv s = none) : SgOk (lnS tn tv s) ∧ csN s.2.2.1 ≤ csN (lnS tn tv s).2.2.1 := by
  obtain ⟨W, hn⟩ := h
  unfold lnF at e
  unfold lnS
  by_cases k0 : kd tn tv s.1 = 0
  · rw [if_pos k0] at e ⊢
    obtain ⟨a, b, -⟩ := fom_wf W e
    exact ⟨⟨a, hn.add (by simp; omega) (by simp) (by simp) (fun _ => by simp) (fun z => absurd z (by decide))⟩, by unfold csN; simp <;> omega⟩
  by_cases k1 : kd tn tv s.1 = 1
  · rw [if_neg k0, if_pos k1] at e ⊢
    obtain ⟨a, b⟩ := thg_wf W e
    exact ⟨⟨a, hn.add (by simp; omega) (by simp) (by simp) (fun z => absurd z (by decide)) (fun _ => by simp)⟩, by unfold csN; simp <;> omega⟩
  by_cases k2 : kd tn tv s.1 = 2
  · rw [if_neg k0, if_neg k1, if_pos k2] at e ⊢
    obtain ⟨a, b⟩ := box_wf W e
    exact ⟨⟨a, hn.add (by simp; omega) (by simp) (by simp) (fun z => absurd z (by decide)) (fun z => absurd z (by decide))⟩, by unfold csN; simp <;> omega⟩
  by_cases k3 : kd tn tv s.1 = 3
  · rw [if_neg k0, if_neg k1, if_neg k2, if_pos k3] at e ⊢
    exact ⟨⟨pad_wf W hn e, hn⟩, Nat.le_refl _⟩
  by_cases k4 : kd tn tv s.1 = 4
  · rw [if_neg k0, if_neg k1, if_neg k2, if_neg k3, if_pos k4] at e
    rw [if_neg k0, if_neg k1, if_neg k2, if_neg k3]
    obtain ⟨a, b⟩ := drp_wf W hn e
    exact ⟨⟨a, hn⟩, by unfold csN; simp <;> omega⟩
  · rw [if_neg k0, if_neg k1, if_neg k2, if_neg k3, if_neg k4] at e
    exact absurd e (by simp)
/-- the whole text -/
def runF (tn : Nat) (tv : Nat → Nat) : Nat → SG → Nat → Sum (Nat × Nat) (SG × Nat)
  | 0, s, n => .inr (s, n)
  | m + 1, s, n => if kd tn tv s.1 = 22 then (if tn ≤ 600 then .inr (s, n) else .inl (1, s.1)) else match (lnF tn tv s).or (tokF tn tv 19 (lnS tn tv s).1) with
    | some f => .inl f
    | none => runF tn tv m ((lnS tn tv s).1 + 1, (lnS tn tv s).2) (n + 1)
theorem tkP_mono {tn : Nat} {tv : Nat → Nat} (i : Nat) : tkP tn tv i ≤ tkP tn tv (i + 1) := by
  have h1 : ∀ p, p ≤ tkS tn tv p := fun p => by unfold tkS; omega
  have h2 : ∀ q, q ≤ tkE tn tv q := fun q => by unfold tkE; split <;> omega
  exact Nat.le_trans (h2 _) (h1 _)
theorem tkP_ge {tn : Nat} {tv : Nat → Nat} {N : Nat} (h : tkM tn ≤ tkP tn tv N) : ∀ d, tkM tn ≤ tkP tn tv (N + d)
  | 0 => h
  | d + 1 => Nat.le_trans (tkP_ge h d) (tkP_mono _)
theorem kd_in {h : List PE} {tn N i : Nat} {tv : Nat → Nat} (hTk : TkR h tn tv N) (e : ¬ kd tn tv i = 22) : i < N := by
  obtain ⟨z9, z10, z11, -, -, -, -, hR, hN⟩ := hTk
  by_cases q : i < N
  · exact q
  · exfalso
    have := tkP_ge hN (i - N)
    rw [show N + (i - N) = i by omega] at this
    exact e (if_neg (by omega))
theorem tok_in {h : List PE} {tn N i k : Nat} {tv : Nat → Nat} (hTk : TkR h tn tv N) (hk : k < 22) (e : tokF tn tv k i = none) : i + 1 ≤ N := by
  unfold tokF at e
  by_cases q : kd tn tv i = k
  · exact kd_in hTk (by omega)
  · rw [if_neg q] at e; exact absurd e (by simp)
theorem lnS_gt {tn : Nat} {tv : Nat → Nat} (s : SG) : s.1 < (lnS tn tv s).1 := by
  unfold lnS
  split
  · show s.1 < s.1 + 6 + 3 * _; omega
  · split
    · show s.1 < s.1 + 10; omega
    · split
      · show s.1 < s.1 + 10; omega
      · split
        · show s.1 < s.1 + 9; omega
        · have : drpI tn tv s.1 = s.1 + 8 ∨ drpI tn tv s.1 = s.1 + 6 := by unfold drpI; split <;> simp
          show s.1 < drpI tn tv s.1; omega
theorem numOf_in {h : List PE} {tn N i k : Nat} {tv : Nat → Nat} {a b : Int32} (hTk : TkR h tn tv N) (e : numOfF tn tv k a b i = none) : i + 2 ≤ N := by
  obtain ⟨-, e⟩ := orN e
  unfold numF at e
  by_cases q : kd tn tv (i + 1) = 18
  · exact kd_in hTk (by omega)
  · rw [if_neg q] at e; exact absurd e (by simp)
theorem lnS_in {h : List PE} {tn N : Nat} {tv : Nat → Nat} {s : SG} (hTk : TkR h tn tv N) (hs : SgOk s) (e : lnF tn tv s = none) : (lnS tn tv s).1 ≤ N := by
  obtain ⟨W, hn⟩ := hs
  unfold lnF at e
  unfold lnS
  by_cases k0 : kd tn tv s.1 = 0
  · rw [if_pos k0] at e ⊢
    obtain ⟨-, -, -, -, hp⟩ := fom_wf W e
    unfold fomF at e
    split at e
    · exact absurd e (by simp)
    obtain ⟨-, e⟩ := orN e
    rw [hp] at e
    obtain ⟨-, e⟩ := orN e
    have := numOf_in hTk e
    show s.1 + 6 + 3 * fomN tn tv s.1 ≤ N
    omega
  by_cases k1 : kd tn tv s.1 = 1
  · rw [if_neg k0, if_pos k1] at e ⊢
    unfold thgF at e
    split at e
    · exact absurd e (by simp)
    obtain ⟨-, e⟩ := orN e
    obtain ⟨-, e⟩ := orN e
    obtain ⟨-, e⟩ := orN e
    have := numOf_in hTk e
    show s.1 + 10 ≤ N
    omega
  by_cases k2 : kd tn tv s.1 = 2
  · rw [if_neg k0, if_neg k1, if_pos k2] at e ⊢
    unfold boxF at e
    split at e
    · exact absurd e (by simp)
    obtain ⟨-, e⟩ := orN e
    obtain ⟨-, e⟩ := orN e
    obtain ⟨-, e⟩ := orN e
    have := numOf_in hTk e
    show s.1 + 10 ≤ N
    omega
  by_cases k3 : kd tn tv s.1 = 3
  · rw [if_neg k0, if_neg k1, if_neg k2, if_pos k3] at e ⊢
    unfold padF at e
    obtain ⟨-, e⟩ := orN e
    obtain ⟨-, e⟩ := orN e
    obtain ⟨-, e⟩ := orN e
    obtain ⟨-, e⟩ := orN e
    obtain ⟨-, e⟩ := orN e
    have := numOf_in hTk e
    show s.1 + 9 ≤ N
    omega
  by_cases k4 : kd tn tv s.1 = 4
  · rw [if_neg k0, if_neg k1, if_neg k2, if_neg k3, if_pos k4] at e
    rw [if_neg k0, if_neg k1, if_neg k2, if_neg k3]
    unfold drpF at e
    split at e
    · exact absurd e (by simp)
    obtain ⟨-, e⟩ := orN e
    obtain ⟨-, e⟩ := orN e
    obtain ⟨e1, e⟩ := orN e
    show drpI tn tv s.1 ≤ N
    unfold drpI
    by_cases z : kd tn tv (s.1 + 6) = 16
    · rw [if_pos z] at e ⊢
      have := numOf_in hTk e
      omega
    · rw [if_neg z]
      have := numOf_in hTk e1
      omega
  · rw [if_neg k0, if_neg k1, if_neg k2, if_neg k3, if_neg k4] at e
    exact absurd e (by simp)

set_option maxRecDepth 100000 in
set_option maxHeartbeats 4000000 in
theorem c_readLine0 {G : GT} {h : List PE} {tn N a ln : Nat} {tv : Nat → Nat} {s : SG} (hTk : TkR h tn tv N) (hi : s.1 ≤ N) (hRd : RdS h s.1 s.2.1) (hB : BkC h s.2.2.2 s.2.2.1 a ln) (hs : SgOk s) (hk0 : kd tn tv s.1 < 22) (hk : kd tn tv s.1 = 0) : CT G mX1_readLine 4 92 [.ref 6, .ref a] h (fun o => LnP h (lnF tn tv s) (lnS tn tv s).1 (lnS tn tv s).2.1 (lnS tn tv s).2.2.2 (lnS tn tv s).2.2.1 a ln o ∧ (lnF tn tv s = none → Gr a [6, 12, 13, 14] (5 * (csN (lnS tn tv s).2.2.1 - csN s.2.2.1)) (27 * (csN (lnS tn tv s).2.2.1 - csN s.2.2.1)) h o.2)) := by
  obtain ⟨⟨v, ft, f6⟩, hNm⟩ := id hRd
  obtain ⟨hl24, y12, y13, y14, f12, f13, f14, hy⟩ := id hNm
  obtain ⟨z9, z10, z11, f7, -, -, -, hR, hN⟩ := id hTk
  have ha51 := hB.1
  obtain ⟨W, hn⟩ := id hs
  have sm0 : Sm [6] h h := Sm.rf
  show X (NF G) G mX1_readLine 4 92 0 [(0, .ref 6), (1, .ref a)] [] h _
  refine x_aload_n dX1_readLine_0 0 rfl ?_
  refine x_get (v := .ref 7) dX1_readLine_1 fX1_14 f6 (by decide) rfl ?_
  refine x_aload_n dX1_readLine_4 0 rfl ?_
  refine x_get (v := .int (nI (s.1))) dX1_readLine_5 fX1_35 f6 (by decide) rfl ?_
  refine x_callV (rf' := 0) (rl' := 0) [.int (nI (s.1))] [] dX1_readLine_8 vX1_79 Y_X10_kindAt f7 (by decide) rfl rfl (Nat.le_of_ble_eq_true rfl) (Nat.le_of_ble_eq_true rfl) (by decide) (by decide) (c_kindAt (i := s.1) hTk hi) (fun _ _ e101 => ?_)
  cases e101
  rw [hk]
  change X _ _ _ _ _ _ _ [.int 0] _ _
  refine x_tableIn (off := 33) (tgt := 44) dX1_readLine_11 (by decide) (by decide) rfl (by decide) ?_
  refine x_aload_n dX1_readLine_44 0 rfl ?_
  refine x_aload_n dX1_readLine_45 1 rfl ?_
  refine x_callV (rf' := 3) (rl' := 67) [.ref a] [] dX1_readLine_46 vX1_82 Y_X1_readFoam f6 (by decide) rfl rfl (Nat.le_of_ble_eq_true rfl) (Nat.le_of_ble_eq_true rfl) (by decide) (by decide) (c_readFoam (i := s.1) (nl := s.2.1) (c := s.2.2.1) (R := s.2.2.2) hTk hi hRd hB W hn hk0) (fun r h102 e103 => ?_)
  obtain ⟨g9, e9⟩ := e103
  cases q : fomF tn tv s.2.1 s.2.2.1.1 s.1 with
  | some f =>
    rw [q] at e9
    obtain ⟨e0, e2⟩ := e9
    cases e0
    exact x_zret dX1_readLine_49 rfl rfl ⟨⟨g9, by rw [show lnF tn tv s = some f by unfold lnF; rw [if_pos hk]; exact q]; exact ⟨rfl, e2⟩⟩, fun z => absurd z (by rw [show lnF tn tv s = some f by unfold lnF; rw [if_pos hk]; exact q]; simp)⟩
  | none =>
    rw [q] at e9
    obtain ⟨e0, e2⟩ := e9
    cases e0
    exact x_zret dX1_readLine_49 rfl rfl ⟨⟨g9, by rw [show lnF tn tv s = none by unfold lnF; rw [if_pos hk]; exact q]; unfold lnS; rw [if_pos hk]; exact ⟨rfl, e2⟩⟩, fun _ => by unfold lnS; rw [if_pos hk]; exact Gr.wide g9 (fun x _ hx => hx) (Nat.le_refl _) (by unfold csN; simp; try omega) (by unfold csN; simp; try omega)⟩

set_option maxRecDepth 100000 in
set_option maxHeartbeats 4000000 in
theorem c_readLine1 {G : GT} {h : List PE} {tn N a ln : Nat} {tv : Nat → Nat} {s : SG} (hTk : TkR h tn tv N) (hi : s.1 ≤ N) (hRd : RdS h s.1 s.2.1) (hB : BkC h s.2.2.2 s.2.2.1 a ln) (hs : SgOk s) (hk0 : kd tn tv s.1 < 22) (hk : kd tn tv s.1 = 1) : CT G mX1_readLine 4 92 [.ref 6, .ref a] h (fun o => LnP h (lnF tn tv s) (lnS tn tv s).1 (lnS tn tv s).2.1 (lnS tn tv s).2.2.2 (lnS tn tv s).2.2.1 a ln o ∧ (lnF tn tv s = none → Gr a [6, 12, 13, 14] (5 * (csN (lnS tn tv s).2.2.1 - csN s.2.2.1)) (27 * (csN (lnS tn tv s).2.2.1 - csN s.2.2.1)) h o.2)) := by
  obtain ⟨⟨v, ft, f6⟩, hNm⟩ := id hRd
  obtain ⟨hl24, y12, y13, y14, f12, f13, f14, hy⟩ := id hNm
  obtain ⟨z9, z10, z11, f7, -, -, -, hR, hN⟩ := id hTk
  have ha51 := hB.1
  obtain ⟨W, hn⟩ := id hs
  have sm0 : Sm [6] h h := Sm.rf
  show X (NF G) G mX1_readLine 4 92 0 [(0, .ref 6), (1, .ref a)] [] h _
  refine x_aload_n dX1_readLine_0 0 rfl ?_
  refine x_get (v := .ref 7) dX1_readLine_1 fX1_14 f6 (by decide) rfl ?_
  refine x_aload_n dX1_readLine_4 0 rfl ?_
  refine x_get (v := .int (nI (s.1))) dX1_readLine_5 fX1_35 f6 (by decide) rfl ?_
  refine x_callV (rf' := 0) (rl' := 0) [.int (nI (s.1))] [] dX1_readLine_8 vX1_79 Y_X10_kindAt f7 (by decide) rfl rfl (Nat.le_of_ble_eq_true rfl) (Nat.le_of_ble_eq_true rfl) (by decide) (by decide) (c_kindAt (i := s.1) hTk hi) (fun _ _ e101 => ?_)
  cases e101
  rw [hk]
  change X _ _ _ _ _ _ _ [.int 1] _ _
  refine x_tableIn (off := 39) (tgt := 50) dX1_readLine_11 (by decide) (by decide) rfl (by decide) ?_
  refine x_aload_n dX1_readLine_50 0 rfl ?_
  refine x_aload_n dX1_readLine_51 1 rfl ?_
  refine x_callV (rf' := 3) (rl' := 67) [.ref a] [] dX1_readLine_52 vX1_85 Y_X1_readThing f6 (by decide) rfl rfl (Nat.le_of_ble_eq_true rfl) (Nat.le_of_ble_eq_true rfl) (by decide) (by decide) (c_readThing (i := s.1) (nl := s.2.1) (c := s.2.2.1) (R := s.2.2.2) hTk hi hRd hB W hn hk0) (fun r h102 e103 => ?_)
  obtain ⟨g9, e9⟩ := e103
  cases q : thgF tn tv s.2.1 s.2.2.1.2.1 s.1 with
  | some f =>
    rw [q] at e9
    obtain ⟨e0, e2⟩ := e9
    cases e0
    exact x_zret dX1_readLine_55 rfl rfl ⟨⟨g9, by rw [show lnF tn tv s = some f by unfold lnF; rw [if_neg (by omega), if_pos hk]; exact q]; exact ⟨rfl, e2⟩⟩, fun z => absurd z (by rw [show lnF tn tv s = some f by unfold lnF; rw [if_neg (by omega), if_pos hk]; exact q]; simp)⟩
  | none =>
    rw [q] at e9
    obtain ⟨e0, e2⟩ := e9
    cases e0
    exact x_zret dX1_readLine_55 rfl rfl ⟨⟨g9, by rw [show lnF tn tv s = none by unfold lnF; rw [if_neg (by omega), if_pos hk]; exact q]; unfold lnS; rw [if_neg (by omega), if_pos hk]; exact ⟨rfl, e2⟩⟩, fun _ => by unfold lnS; rw [if_neg (by omega), if_pos hk]; exact Gr.wide g9 (fun x _ hx => hx) (Nat.le_refl _) (by unfold csN; simp; try omega) (by unfold csN; simp; try omega)⟩

set_option maxRecDepth 100000 in
set_option maxHeartbeats 4000000 in
theorem c_readLine2 {G : GT} {h : List PE} {tn N a ln : Nat} {tv : Nat → Nat} {s : SG} (hTk : TkR h tn tv N) (hi : s.1 ≤ N) (hRd : RdS h s.1 s.2.1) (hB : BkC h s.2.2.2 s.2.2.1 a ln) (hs : SgOk s) (hk0 : kd tn tv s.1 < 22) (hk : kd tn tv s.1 = 2) : CT G mX1_readLine 4 92 [.ref 6, .ref a] h (fun o => LnP h (lnF tn tv s) (lnS tn tv s).1 (lnS tn tv s).2.1 (lnS tn tv s).2.2.2 (lnS tn tv s).2.2.1 a ln o ∧ (lnF tn tv s = none → Gr a [6, 12, 13, 14] (5 * (csN (lnS tn tv s).2.2.1 - csN s.2.2.1)) (27 * (csN (lnS tn tv s).2.2.1 - csN s.2.2.1)) h o.2)) := by
  obtain ⟨⟨v, ft, f6⟩, hNm⟩ := id hRd
  obtain ⟨hl24, y12, y13, y14, f12, f13, f14, hy⟩ := id hNm
  obtain ⟨z9, z10, z11, f7, -, -, -, hR, hN⟩ := id hTk
  have ha51 := hB.1
  obtain ⟨W, hn⟩ := id hs
  have sm0 : Sm [6] h h := Sm.rf
  show X (NF G) G mX1_readLine 4 92 0 [(0, .ref 6), (1, .ref a)] [] h _
  refine x_aload_n dX1_readLine_0 0 rfl ?_
  refine x_get (v := .ref 7) dX1_readLine_1 fX1_14 f6 (by decide) rfl ?_
  refine x_aload_n dX1_readLine_4 0 rfl ?_
  refine x_get (v := .int (nI (s.1))) dX1_readLine_5 fX1_35 f6 (by decide) rfl ?_
  refine x_callV (rf' := 0) (rl' := 0) [.int (nI (s.1))] [] dX1_readLine_8 vX1_79 Y_X10_kindAt f7 (by decide) rfl rfl (Nat.le_of_ble_eq_true rfl) (Nat.le_of_ble_eq_true rfl) (by decide) (by decide) (c_kindAt (i := s.1) hTk hi) (fun _ _ e101 => ?_)
  cases e101
  rw [hk]
  change X _ _ _ _ _ _ _ [.int 2] _ _
  refine x_tableIn (off := 45) (tgt := 56) dX1_readLine_11 (by decide) (by decide) rfl (by decide) ?_
  refine x_aload_n dX1_readLine_56 0 rfl ?_
  refine x_aload_n dX1_readLine_57 1 rfl ?_
  refine x_callV (rf' := 3) (rl' := 67) [.ref a] [] dX1_readLine_58 vX1_88 Y_X1_readBox f6 (by decide) rfl rfl (Nat.le_of_ble_eq_true rfl) (Nat.le_of_ble_eq_true rfl) (by decide) (by decide) (c_readBox (i := s.1) (nl := s.2.1) (c := s.2.2.1) (R := s.2.2.2) hTk hi hRd hB W hn hk0) (fun r h102 e103 => ?_)
  obtain ⟨g9, e9⟩ := e103
  cases q : boxF tn tv s.2.1 s.2.2.1.2.2.1 s.1 with
  | some f =>
    rw [q] at e9
    obtain ⟨e0, e2⟩ := e9
    cases e0
    exact x_zret dX1_readLine_61 rfl rfl ⟨⟨g9, by rw [show lnF tn tv s = some f by unfold lnF; rw [if_neg (by omega), if_neg (by omega), if_pos hk]; exact q]; exact ⟨rfl, e2⟩⟩, fun z => absurd z (by rw [show lnF tn tv s = some f by unfold lnF; rw [if_neg (by omega), if_neg (by omega), if_pos hk]; exact q]; simp)⟩
  | none =>
    rw [q] at e9
    obtain ⟨e0, e2⟩ := e9
    cases e0
    exact x_zret dX1_readLine_61 rfl rfl ⟨⟨g9, by rw [show lnF tn tv s = none by unfold lnF; rw [if_neg (by omega), if_neg (by omega), if_pos hk]; exact q]; unfold lnS; rw [if_neg (by omega), if_neg (by omega), if_pos hk]; exact ⟨rfl, e2⟩⟩, fun _ => by unfold lnS; rw [if_neg (by omega), if_neg (by omega), if_pos hk]; exact Gr.wide g9 (fun x _ hx => hx) (Nat.le_refl _) (by unfold csN; simp; try omega) (by unfold csN; simp; try omega)⟩

set_option maxRecDepth 100000 in
set_option maxHeartbeats 4000000 in
theorem c_readLine3 {G : GT} {h : List PE} {tn N a ln : Nat} {tv : Nat → Nat} {s : SG} (hTk : TkR h tn tv N) (hi : s.1 ≤ N) (hRd : RdS h s.1 s.2.1) (hB : BkC h s.2.2.2 s.2.2.1 a ln) (hs : SgOk s) (hk0 : kd tn tv s.1 < 22) (hk : kd tn tv s.1 = 3) : CT G mX1_readLine 4 92 [.ref 6, .ref a] h (fun o => LnP h (lnF tn tv s) (lnS tn tv s).1 (lnS tn tv s).2.1 (lnS tn tv s).2.2.2 (lnS tn tv s).2.2.1 a ln o ∧ (lnF tn tv s = none → Gr a [6, 12, 13, 14] (5 * (csN (lnS tn tv s).2.2.1 - csN s.2.2.1)) (27 * (csN (lnS tn tv s).2.2.1 - csN s.2.2.1)) h o.2)) := by
  obtain ⟨⟨v, ft, f6⟩, hNm⟩ := id hRd
  obtain ⟨hl24, y12, y13, y14, f12, f13, f14, hy⟩ := id hNm
  obtain ⟨z9, z10, z11, f7, -, -, -, hR, hN⟩ := id hTk
  have ha51 := hB.1
  obtain ⟨W, hn⟩ := id hs
  have sm0 : Sm [6] h h := Sm.rf
  show X (NF G) G mX1_readLine 4 92 0 [(0, .ref 6), (1, .ref a)] [] h _
  refine x_aload_n dX1_readLine_0 0 rfl ?_
  refine x_get (v := .ref 7) dX1_readLine_1 fX1_14 f6 (by decide) rfl ?_
  refine x_aload_n dX1_readLine_4 0 rfl ?_
  refine x_get (v := .int (nI (s.1))) dX1_readLine_5 fX1_35 f6 (by decide) rfl ?_
  refine x_callV (rf' := 0) (rl' := 0) [.int (nI (s.1))] [] dX1_readLine_8 vX1_79 Y_X10_kindAt f7 (by decide) rfl rfl (Nat.le_of_ble_eq_true rfl) (Nat.le_of_ble_eq_true rfl) (by decide) (by decide) (c_kindAt (i := s.1) hTk hi) (fun _ _ e101 => ?_)
  cases e101
  rw [hk]
  change X _ _ _ _ _ _ _ [.int 3] _ _
  refine x_tableIn (off := 51) (tgt := 62) dX1_readLine_11 (by decide) (by decide) rfl (by decide) ?_
  refine x_aload_n dX1_readLine_62 0 rfl ?_
  refine x_aload_n dX1_readLine_63 1 rfl ?_
  refine x_callV (rf' := 3) (rl' := 67) [.ref a] [] dX1_readLine_64 vX1_91 Y_X1_readPad f6 (by decide) rfl rfl (Nat.le_of_ble_eq_true rfl) (Nat.le_of_ble_eq_true rfl) (by decide) (by decide) (c_readPad (i := s.1) (nl := s.2.1) (c := s.2.2.1) (R := s.2.2.2) hTk hi hRd hB W hn hk0 hk) (fun r h102 e103 => ?_)
  obtain ⟨e103, G0⟩ := e103
  obtain ⟨g9, e9⟩ := e103
  cases q : padF tn tv s.2.1 s.1 s.2.2.2 with
  | some f =>
    rw [q] at e9
    obtain ⟨e0, e2⟩ := e9
    cases e0
    exact x_zret dX1_readLine_67 rfl rfl ⟨⟨g9, by rw [show lnF tn tv s = some f by unfold lnF; rw [if_neg (by omega), if_neg (by omega), if_neg (by omega), if_pos hk]; exact q]; exact ⟨rfl, e2⟩⟩, fun z => absurd z (by rw [show lnF tn tv s = some f by unfold lnF; rw [if_neg (by omega), if_neg (by omega), if_neg (by omega), if_pos hk]; exact q]; simp)⟩
  | none =>
    rw [q] at e9
    obtain ⟨e0, e2⟩ := e9
    cases e0
    exact x_zret dX1_readLine_67 rfl rfl ⟨⟨g9, by rw [show lnF tn tv s = none by unfold lnF; rw [if_neg (by omega), if_neg (by omega), if_neg (by omega), if_pos hk]; exact q]; unfold lnS; rw [if_neg (by omega), if_neg (by omega), if_neg (by omega), if_pos hk]; exact ⟨rfl, e2⟩⟩, fun _ => by unfold lnS; rw [if_neg (by omega), if_neg (by omega), if_neg (by omega), if_pos hk]; exact Gr.wide G0 (fun x _ hx => hx) (Nat.le_refl _) (by unfold csN; simp; try omega) (by unfold csN; simp; try omega)⟩

set_option maxRecDepth 100000 in
set_option maxHeartbeats 4000000 in
theorem c_readLine4 {G : GT} {h : List PE} {tn N a ln : Nat} {tv : Nat → Nat} {s : SG} (hTk : TkR h tn tv N) (hi : s.1 ≤ N) (hRd : RdS h s.1 s.2.1) (hB : BkC h s.2.2.2 s.2.2.1 a ln) (hs : SgOk s) (hk0 : kd tn tv s.1 < 22) (hk : kd tn tv s.1 = 4) : CT G mX1_readLine 4 92 [.ref 6, .ref a] h (fun o => LnP h (lnF tn tv s) (lnS tn tv s).1 (lnS tn tv s).2.1 (lnS tn tv s).2.2.2 (lnS tn tv s).2.2.1 a ln o ∧ (lnF tn tv s = none → Gr a [6, 12, 13, 14] (5 * (csN (lnS tn tv s).2.2.1 - csN s.2.2.1)) (27 * (csN (lnS tn tv s).2.2.1 - csN s.2.2.1)) h o.2)) := by
  obtain ⟨⟨v, ft, f6⟩, hNm⟩ := id hRd
  obtain ⟨hl24, y12, y13, y14, f12, f13, f14, hy⟩ := id hNm
  obtain ⟨z9, z10, z11, f7, -, -, -, hR, hN⟩ := id hTk
  have ha51 := hB.1
  obtain ⟨W, hn⟩ := id hs
  have sm0 : Sm [6] h h := Sm.rf
  show X (NF G) G mX1_readLine 4 92 0 [(0, .ref 6), (1, .ref a)] [] h _
  refine x_aload_n dX1_readLine_0 0 rfl ?_
  refine x_get (v := .ref 7) dX1_readLine_1 fX1_14 f6 (by decide) rfl ?_
  refine x_aload_n dX1_readLine_4 0 rfl ?_
  refine x_get (v := .int (nI (s.1))) dX1_readLine_5 fX1_35 f6 (by decide) rfl ?_
  refine x_callV (rf' := 0) (rl' := 0) [.int (nI (s.1))] [] dX1_readLine_8 vX1_79 Y_X10_kindAt f7 (by decide) rfl rfl (Nat.le_of_ble_eq_true rfl) (Nat.le_of_ble_eq_true rfl) (by decide) (by decide) (c_kindAt (i := s.1) hTk hi) (fun _ _ e101 => ?_)
  cases e101
  rw [hk]
  change X _ _ _ _ _ _ _ [.int 4] _ _
  refine x_tableIn (off := 57) (tgt := 68) dX1_readLine_11 (by decide) (by decide) rfl (by decide) ?_
  refine x_aload_n dX1_readLine_68 0 rfl ?_
  refine x_aload_n dX1_readLine_69 1 rfl ?_
  refine x_callV (rf' := 3) (rl' := 67) [.ref a] [] dX1_readLine_70 vX1_94 Y_X1_readDrop f6 (by decide) rfl rfl (Nat.le_of_ble_eq_true rfl) (Nat.le_of_ble_eq_true rfl) (by decide) (by decide) (c_readDrop (i := s.1) (nl := s.2.1) (c := s.2.2.1) (R := s.2.2.2) hTk hi hRd hB W hn hk0) (fun r h102 e103 => ?_)
  obtain ⟨g9, e9⟩ := e103
  cases q : drpF tn tv s.2.1 s.2.2.1.2.2.2 s.1 with
  | some f =>
    rw [q] at e9
    obtain ⟨e0, e2⟩ := e9
    cases e0
    exact x_zret dX1_readLine_73 rfl rfl ⟨⟨g9, by rw [show lnF tn tv s = some f by unfold lnF; rw [if_neg (by omega), if_neg (by omega), if_neg (by omega), if_neg (by omega), if_pos hk]; exact q]; exact ⟨rfl, e2⟩⟩, fun z => absurd z (by rw [show lnF tn tv s = some f by unfold lnF; rw [if_neg (by omega), if_neg (by omega), if_neg (by omega), if_neg (by omega), if_pos hk]; exact q]; simp)⟩
  | none =>
    rw [q] at e9
    obtain ⟨e0, e2⟩ := e9
    cases e0
    exact x_zret dX1_readLine_73 rfl rfl ⟨⟨g9, by rw [show lnF tn tv s = none by unfold lnF; rw [if_neg (by omega), if_neg (by omega), if_neg (by omega), if_neg (by omega), if_pos hk]; exact q]; unfold lnS; rw [if_neg (by omega), if_neg (by omega), if_neg (by omega), if_neg (by omega)]; exact ⟨rfl, e2⟩⟩, fun _ => by unfold lnS; rw [if_neg (by omega), if_neg (by omega), if_neg (by omega), if_neg (by omega)]; exact Gr.wide g9 (fun x _ hx => hx) (Nat.le_refl _) (by unfold csN; simp; try omega) (by unfold csN; simp; try omega)⟩

set_option maxRecDepth 100000 in
set_option maxHeartbeats 4000000 in
theorem c_readLine5 {G : GT} {h : List PE} {tn N a ln : Nat} {tv : Nat → Nat} {s : SG} (hTk : TkR h tn tv N) (hi : s.1 ≤ N) (hRd : RdS h s.1 s.2.1) (hB : BkC h s.2.2.2 s.2.2.1 a ln) (hs : SgOk s) (hk0 : kd tn tv s.1 < 22) (hk : 5 ≤ kd tn tv s.1) : CT G mX1_readLine 4 92 [.ref 6, .ref a] h (fun o => LnP h (lnF tn tv s) (lnS tn tv s).1 (lnS tn tv s).2.1 (lnS tn tv s).2.2.2 (lnS tn tv s).2.2.1 a ln o ∧ (lnF tn tv s = none → Gr a [6, 12, 13, 14] (5 * (csN (lnS tn tv s).2.2.1 - csN s.2.2.1)) (27 * (csN (lnS tn tv s).2.2.1 - csN s.2.2.1)) h o.2)) := by
  obtain ⟨⟨v, ft, f6⟩, hNm⟩ := id hRd
  obtain ⟨hl24, y12, y13, y14, f12, f13, f14, hy⟩ := id hNm
  obtain ⟨z9, z10, z11, f7, -, -, -, hR, hN⟩ := id hTk
  have ha51 := hB.1
  obtain ⟨W, hn⟩ := id hs
  have sm0 : Sm [6] h h := Sm.rf
  show X (NF G) G mX1_readLine 4 92 0 [(0, .ref 6), (1, .ref a)] [] h _
  refine x_aload_n dX1_readLine_0 0 rfl ?_
  refine x_get (v := .ref 7) dX1_readLine_1 fX1_14 f6 (by decide) rfl ?_
  refine x_aload_n dX1_readLine_4 0 rfl ?_
  refine x_get (v := .int (nI (s.1))) dX1_readLine_5 fX1_35 f6 (by decide) rfl ?_
  refine x_callV (rf' := 0) (rl' := 0) [.int (nI (s.1))] [] dX1_readLine_8 vX1_79 Y_X10_kindAt f7 (by decide) rfl rfl (Nat.le_of_ble_eq_true rfl) (Nat.le_of_ble_eq_true rfl) (by decide) (by decide) (c_kindAt (i := s.1) hTk hi) (fun _ _ e101 => ?_)
  cases e101
  refine x_tableOut (tgt := 74) dX1_readLine_11 (by rw [nI_toInt (by omega)]; omega) (by decide) ?_
  refine x_aload_n dX1_readLine_74 0 rfl ?_
  refine x_aload_n dX1_readLine_75 0 rfl ?_
  refine x_get (v := .int (nI (s.1))) dX1_readLine_76 fX1_35 f6 (by decide) rfl ?_
  refine x_iconst (v := 1) dX1_readLine_79 (by decide) ?_
  refine x_callV (rf' := 0) (rl' := 0) [.int (nI (s.1)), .int 1] [] dX1_readLine_80 vX1_71 Y_X1_refuse f6 (by decide) rfl rfl (Nat.le_of_ble_eq_true rfl) (Nat.le_of_ble_eq_true rfl) (by decide) (by decide) (c_refuse f6) (fun r h102 e103 => ?_)
  obtain ⟨sm105, e0, g104⟩ := e103
  cases e0
  have sm105 : Sm [6] h h102 := sm105
  have sm106 := sm0.tr (sm105.wide (by decide))
  have f107 := sm105.at f7 (by first | decide | (simp; omega) | simp | omega)
  have f108 := sm105.at f12 (by first | decide | (simp; omega) | simp | omega)
  have f109 := sm105.at f13 (by first | decide | (simp; omega) | simp | omega)
  have f110 := sm105.at f14 (by first | decide | (simp; omega) | simp | omega)
  exact x_zret dX1_readLine_83 rfl rfl ⟨⟨Gr.wide (Gr.sm (Gr.rf (m := a) (L := [6, 12, 13, 14]) (h := h)) sm106 (fun x hx => Or.inl (by revert x; decide))) (fun x _ hx => hx) (Nat.le_refl _) (by decide) (by decide), by rw [show lnF tn tv s = some (1, s.1) by unfold lnF; rw [if_neg (by omega), if_neg (by omega), if_neg (by omega), if_neg (by omega), if_neg (by omega)]]; exact ⟨rfl, ⟨_, _, _, g104⟩, _, _, _, f108, f109, f110⟩⟩, fun z => absurd z (by rw [show lnF tn tv s = some (1, s.1) by unfold lnF; rw [if_neg (by omega), if_neg (by omega), if_neg (by omega), if_neg (by omega), if_neg (by omega)]]; simp)⟩

theorem c_readLine {G : GT} {h : List PE} {tn N a ln : Nat} {tv : Nat → Nat} {s : SG} (hTk : TkR h tn tv N) (hi : s.1 ≤ N) (hRd : RdS h s.1 s.2.1) (hB : BkC h s.2.2.2 s.2.2.1 a ln) (hs : SgOk s) (hk0 : kd tn tv s.1 < 22) : CT G mX1_readLine 4 92 [.ref 6, .ref a] h (fun o => LnP h (lnF tn tv s) (lnS tn tv s).1 (lnS tn tv s).2.1 (lnS tn tv s).2.2.2 (lnS tn tv s).2.2.1 a ln o ∧ (lnF tn tv s = none → Gr a [6, 12, 13, 14] (5 * (csN (lnS tn tv s).2.2.1 - csN s.2.2.1)) (27 * (csN (lnS tn tv s).2.2.1 - csN s.2.2.1)) h o.2)) := by
  by_cases k0 : kd tn tv s.1 = 0
  · exact c_readLine0 hTk hi hRd hB hs hk0 k0
  by_cases k1 : kd tn tv s.1 = 1
  · exact c_readLine1 hTk hi hRd hB hs hk0 k1
  by_cases k2 : kd tn tv s.1 = 2
  · exact c_readLine2 hTk hi hRd hB hs hk0 k2
  by_cases k3 : kd tn tv s.1 = 3
  · exact c_readLine3 hTk hi hRd hB hs hk0 k3
  by_cases k4 : kd tn tv s.1 = 4
  · exact c_readLine4 hTk hi hRd hB hs hk0 k4
  · exact c_readLine5 hTk hi hRd hB hs hk0 (by omega)

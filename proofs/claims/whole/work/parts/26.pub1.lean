theorem ix_of {x : Int32} {m : Nat} (hm : m < 2 ^ 31) (h : ¬ (x < 0 ∨ nI m ≤ x)) : ∃ k, k < m ∧ x = nI k := by
  rcases pk_ix x hm with q | q | q
  · exact absurd (Or.inl q) h
  · exact absurd (Or.inr q) h
  · exact q
theorem ix_le {x : Int32} {m : Nat} (hm : m + 1 < 2 ^ 31) (h : ¬ (x < 0 ∨ nI m < x)) : ∃ k, k ≤ m ∧ x = nI k := by
  rcases pk_ix x hm with q | q | ⟨k, q1, q2⟩
  · exact absurd (Or.inl q) h
  · refine absurd (Or.inr ?_) h
    rw [Int32.lt_iff_toInt_lt, nI_toInt (by omega)]
    rw [Int32.le_iff_toInt_le, nI_toInt (by omega)] at q
    omega
  · exact ⟨k, by omega, q2⟩
/-- no such THING; no such side; no such height; not so worn -/
abbrev bT (c : Nat × Nat × Nat × Nat) (th : Int32) : Prop := th < 0 ∨ nI c.2.1 ≤ th
abbrev bS (sd : Int32) : Prop := sd < 0 ∨ 6 ≤ sd
abbrev bH (hh : Int32) : Prop := hh < 0 ∨ 30000 < hh
abbrev bK (kt : Int32) : Prop := kt < 0 ∨ 200 < kt
abbrev tO (th : Int32) : Nat := 164 + 24 * th.toNatClampNeg
noncomputable def spSq (rec : Nat → Int32) (c : Nat × Nat × Nat × Nat) (th sd hh kt : Int32) : Int32 := if bT c th ∨ bS sd ∨ bH hh ∨ bK kt then -1 else SQ rec (tO th) sd.toNatClampNeg kt (rec (tO th)) hh
noncomputable def spBl (rec : Nat → Int32) (c : Nat × Nat × Nat × Nat) (th sd hh kt : Int32) : Int32 := if bT c th ∨ bS sd ∨ bH hh ∨ bK kt then -1 else BL rec (tO th) sd.toNatClampNeg kt (rec (tO th)) hh
/-- how often it HOLDS, of n tries, the foam worn to kept -/
def agF (ho : Int32 → Bool) (ke : Int32) : Nat → Int32 → Nat
  | 0, _ => 0
  | n + 1, kept => if ho kept then agF ho ke n (kept * ke / 100) + 1 else 0
noncomputable def spAg (rec : Nat → Int32) (c : Nat × Nat × Nat × Nat) (th sd hh : Int32) : Int32 := if bT c th ∨ bS sd ∨ bH hh then -1 else nI (agF (fun kept => HO rec (tO th) sd.toNatClampNeg kept (rec (tO th)) hh (rec (tO th + 4))) (keP rec (tO th) sd.toNatClampNeg) 60 100)
theorem keP_nat {rec : Nat → Int32} {c : Nat × Nat × Nat × Nat} {k sd : Nat} (W : WFk rec c) (hk : k < c.2.1) (hs : sd < 6) : ∃ ke, ke ≤ 100 ∧ keP rec (164 + 24 * k) sd = nI ke := by
  unfold keP
  rcases pd_wf (W.2.2.2.2.2.2.2.2.2.1 k hk) W.2.1 hs with ⟨e, -⟩ | ⟨kf, e, hkf, -⟩
  · rw [e]; exact ⟨0, by decide, rfl⟩
  · rw [e]
    obtain ⟨np, P, U, ke, pr, w⟩ := W.2.2.2.2.2.2.2.2.1 kf hkf
    exact ⟨ke, w.2.2.2.2.2.2.2.2.2.2.2.1, w.2.2.2.2.2.2.2.2.2.2.1⟩
theorem wear_nat {kn ke : Nat} (h1 : kn ≤ 200) (h2 : ke ≤ 100) : nI kn * nI ke / 100 = nI (kn * ke / 100) ∧ kn * ke / 100 ≤ 200 := by
  have h3 : kn * ke ≤ 200 * 100 := Nat.mul_le_mul h1 h2
  refine ⟨?_, by omega⟩
  rw [pk_mul, show (100 : Int32) = nI 100 from rfl, pk_div (by omega) (by omega) (by omega)]

set_option maxRecDepth 100000 in
set_option maxHeartbeats 4000000 in
theorem c_squeezeN1 {G : GT} {h : List PE} {n td : Nat} {dy : Nat → Int32} {rc : Nat → Nat → Int32} {ct : Nat → Nat × Nat × Nat × Nat} {fk br t : Int32} {th sd : Int32} {hh kt : Int32} (hfa : FaR h n td fk br) (hbk : BkR h n dy rc ct) (hn : n ≤ 20) (hcu : CuR h) (W : WFk (curR n dy rc t) (curC n dy ct t)) (hs : bT (curC n dy ct t) th) : CT G mX11_squeeze 5 110 [.ref 3, .int th, .int sd, .int hh, .int kt, .int t] h (fun o => o.1 = some (.int (spSq (curR n dy rc t) (curC n dy ct t) th sd hh kt)) ∧ CuR o.2 ∧ Sm [21, 22, 23, 24] h o.2) := by
  have f3 : h[3]? = some (cO 11 [.ref 4, .ref 6, .ref 15, .ref 16, .ref 21, .ref 25, .ref 32, .ref 35, .int (nI n), .int (nI td), .int fk, .int br]) := hfa
  show X (NF G) G mX11_squeeze 5 110 0 [(0, .ref 3), (1, .int th), (2, .int sd), (3, .int hh), (4, .int kt), (5, .int t)] [] h _
  refine x_aload_n dX11_squeeze_0 0 rfl ?_
  refine x_iload_n dX11_squeeze_1 1 rfl ?_
  refine x_iload_n dX11_squeeze_2 2 rfl ?_
  refine x_iload dX11_squeeze_3 5 rfl ?_
  refine x_callV (rf' := 4) (rl' := 86) [.int th, .int sd, .int t] [] dX11_squeeze_5 vX11_125 Y_X11_putOnPad f3 (by decide) rfl rfl (Nat.le_of_ble_eq_true rfl) (Nat.le_of_ble_eq_true rfl) (by decide) (by decide) (c_putOnPadN1 hfa hbk hn hs) (fun _ _ e1 => ?_)
  cases e1
  refine x_astoreN (lv2 := [(6, .null), (0, .ref 3), (1, .int th), (2, .int sd), (3, .int hh), (4, .int kt), (5, .int t)]) dX11_squeeze_8 (by decide) rfl ?_
  refine x_aloadN dX11_squeeze_10 0 rfl ?_
  refine x_ifnullN (tgt := 30) dX11_squeeze_12 (by decide) ?_
  refine x_iconst (v := (-1)) dX11_squeeze_30 (by decide) ?_
  exact x_iret dX11_squeeze_31 rfl ⟨by rw [spSq, if_pos (Or.inl hs)], hcu, Sm.rf⟩

set_option maxRecDepth 100000 in
set_option maxHeartbeats 4000000 in
theorem c_squeezeN2 {G : GT} {h : List PE} {n td : Nat} {dy : Nat → Int32} {rc : Nat → Nat → Int32} {ct : Nat → Nat × Nat × Nat × Nat} {fk br t : Int32} {sd : Int32} {k : Nat} {hh kt : Int32} (hfa : FaR h n td fk br) (hbk : BkR h n dy rc ct) (hn : n ≤ 20) (hcu : CuR h) (W : WFk (curR n dy rc t) (curC n dy ct t)) (hk : k < (curC n dy ct t).2.1) (hs : bS sd) : CT G mX11_squeeze 5 110 [.ref 3, .int (nI k), .int sd, .int hh, .int kt, .int t] h (fun o => o.1 = some (.int (spSq (curR n dy rc t) (curC n dy ct t) (nI k) sd hh kt)) ∧ CuR o.2 ∧ Sm [21, 22, 23, 24] h o.2) := by
  have f3 : h[3]? = some (cO 11 [.ref 4, .ref 6, .ref 15, .ref 16, .ref 21, .ref 25, .ref 32, .ref 35, .int (nI n), .int (nI td), .int fk, .int br]) := hfa
  show X (NF G) G mX11_squeeze 5 110 0 [(0, .ref 3), (1, .int (nI k)), (2, .int sd), (3, .int hh), (4, .int kt), (5, .int t)] [] h _
  refine x_aload_n dX11_squeeze_0 0 rfl ?_
  refine x_iload_n dX11_squeeze_1 1 rfl ?_
  refine x_iload_n dX11_squeeze_2 2 rfl ?_
  refine x_iload dX11_squeeze_3 5 rfl ?_
  refine x_callV (rf' := 4) (rl' := 86) [.int (nI k), .int sd, .int t] [] dX11_squeeze_5 vX11_125 Y_X11_putOnPad f3 (by decide) rfl rfl (Nat.le_of_ble_eq_true rfl) (Nat.le_of_ble_eq_true rfl) (by decide) (by decide) (c_putOnPadN2 hfa hbk hn W hk hs) (fun _ _ e1 => ?_)
  cases e1
  refine x_astoreN (lv2 := [(6, .null), (0, .ref 3), (1, .int (nI k)), (2, .int sd), (3, .int hh), (4, .int kt), (5, .int t)]) dX11_squeeze_8 (by decide) rfl ?_
  refine x_aloadN dX11_squeeze_10 0 rfl ?_
  refine x_ifnullN (tgt := 30) dX11_squeeze_12 (by decide) ?_
  refine x_iconst (v := (-1)) dX11_squeeze_30 (by decide) ?_
  exact x_iret dX11_squeeze_31 rfl ⟨by rw [spSq, if_pos (Or.inr (Or.inl hs))], hcu, Sm.rf⟩

set_option maxRecDepth 100000 in
set_option maxHeartbeats 4000000 in
theorem c_squeezeS {G : GT} {h : List PE} {n td : Nat} {dy : Nat → Int32} {rc : Nat → Nat → Int32} {ct : Nat → Nat × Nat × Nat × Nat} {fk br t : Int32} {k sd : Nat} {hh kt : Int32} (hfa : FaR h n td fk br) (hbk : BkR h n dy rc ct) (hn : n ≤ 20) (hcu : CuR h) (W : WFk (curR n dy rc t) (curC n dy ct t)) (hk : k < (curC n dy ct t).2.1) (hsd : sd < 6) : CT G mX11_squeeze 5 110 [.ref 3, .int (nI k), .int (nI sd), .int hh, .int kt, .int t] h (fun o => o.1 = some (.int (spSq (curR n dy rc t) (curC n dy ct t) (nI k) (nI sd) hh kt)) ∧ CuR o.2 ∧ Sm [21, 22, 23, 24] h o.2) := by
  have f3 : h[3]? = some (cO 11 [.ref 4, .ref 6, .ref 15, .ref 16, .ref 21, .ref 25, .ref 32, .ref 35, .int (nI n), .int (nI td), .int fk, .int br]) := hfa
  have w4 := W.2.2.2.1
  have hp := pcN_le (sd := sd) W (W.2.2.2.2.2.2.2.2.2.1 k hk) hsd
  have ck : tO (nI k) = 164 + 24 * k := by show 164 + 24 * (nI k).toNatClampNeg = _; rw [nI_clamp (by omega)]
  have cs : (nI sd).toNatClampNeg = sd := nI_clamp (by omega)
  obtain ⟨⟨wn, hw, hw1, hw2⟩, -⟩ := W.2.2.2.2.2.2.2.2.2.1 k hk
  have hw9 := nI_one hw1 (show wn < 2 ^ 31 by omega)
  rw [← hw] at hw9
  have nb1 : ¬ bT (curC n dy ct t) (nI k) := fun q => q.elim (nI_pos (by omega)) (fun q => absurd ((nI_leI (by omega) (by omega)).mp q) (by omega))
  have nb2 : ¬ bS (nI sd) := fun q => q.elim (nI_pos (by omega)) (fun q => absurd ((nI_leI (a := 6) (by decide) (by omega)).mp q) (by omega))
  show X (NF G) G mX11_squeeze 5 110 0 [(0, .ref 3), (1, .int (nI k)), (2, .int (nI sd)), (3, .int hh), (4, .int kt), (5, .int t)] [] h _
  refine x_aload_n dX11_squeeze_0 0 rfl ?_
  refine x_iload_n dX11_squeeze_1 1 rfl ?_
  refine x_iload_n dX11_squeeze_2 2 rfl ?_
  refine x_iload dX11_squeeze_3 5 rfl ?_
  refine x_callV (rf' := 4) (rl' := 86) [.int (nI k), .int (nI sd), .int t] [] dX11_squeeze_5 vX11_125 Y_X11_putOnPad f3 (by decide) rfl rfl (Nat.le_of_ble_eq_true rfl) (Nat.le_of_ble_eq_true rfl) (by decide) (by decide) (c_putOnPadS hfa hbk hn hcu W hk hsd) (fun r h1 e1 => ?_)
  obtain ⟨ta, e0, L0, sm1, fq, hT⟩ := e1
  cases e0
  obtain ⟨hta, s1, s2, s3, s4, z1, z2, z3, z4, -, -, -, -, fta, -⟩ := id hT
  have f3 := sm1.at f3 (by decide)
  obtain ⟨frg1, pug1, svg1, g1, -⟩ := id L0
  refine x_astore (lv2 := [(6, .ref ta), (0, .ref 3), (1, .int (nI k)), (2, .int (nI sd)), (3, .int hh), (4, .int kt), (5, .int t)]) dX11_squeeze_8 (by decide) rfl ?_
  refine x_aload dX11_squeeze_10 0 rfl ?_
  refine x_ifnull dX11_squeeze_12 ?_
  refine x_iload_n dX11_squeeze_15 4 rfl ?_
  refine x_callS (rf' := 0) (rl' := 0) [.int hh] [] dX11_squeeze_16 vX11_129 Y_X11_isHeight rfl rfl (Nat.le_of_ble_eq_true rfl) (Nat.le_of_ble_eq_true rfl) (by decide) (by decide) c_isHeight (fun _ _ e2 => ?_)
  cases e2
  by_cases hH : bH hh
  · rw [if_pos hH]
    refine x_if_eq (tgt := 30) dX11_squeeze_19 (by decide) (fun c_19 => ?_) (fun c_19 => absurd (by decide) c_19)
    refine x_iconst (v := (-1)) dX11_squeeze_30 (by decide) ?_
    exact x_iret dX11_squeeze_31 rfl ⟨by rw [spSq, if_pos (Or.inr (Or.inr (Or.inl hH)))], L0.cu hp, sm1⟩
  · rw [if_neg hH]
    refine x_if_eq (tgt := 30) dX11_squeeze_19 (by decide) (fun c_19 => absurd c_19 (by decide)) (fun c_19 => ?_)
    refine x_iload dX11_squeeze_22 5 rfl ?_
    refine x_callS (rf' := 0) (rl' := 0) [.int kt] [] dX11_squeeze_24 vX11_115 Y_X11_isKept rfl rfl (Nat.le_of_ble_eq_true rfl) (Nat.le_of_ble_eq_true rfl) (by decide) (by decide) c_isKept (fun _ _ e3 => ?_)
    cases e3
    by_cases hK : bK kt
    · rw [if_pos hK]
      refine x_if_ne (tgt := 32) dX11_squeeze_27 (by decide) (fun c_27 => absurd (by decide) c_27) (fun c_27 => ?_)
      refine x_iconst (v := (-1)) dX11_squeeze_30 (by decide) ?_
      exact x_iret dX11_squeeze_31 rfl ⟨by rw [spSq, if_pos (Or.inr (Or.inr (Or.inr hK)))], L0.cu hp, sm1⟩
    · rw [if_neg hK]
      refine x_if_ne (tgt := 32) dX11_squeeze_27 (by decide) (fun c_27 => ?_) (fun c_27 => absurd c_27 (by decide))
      refine x_aload_n dX11_squeeze_32 1 rfl ?_
      refine x_get (v := .ref 21) dX11_squeeze_33 fX11_37 f3 (by decide) rfl ?_
      refine x_iload dX11_squeeze_36 5 rfl ?_
      refine x_callV (rf' := 0) (rl' := 0) [.int kt] [] dX11_squeeze_38 vX11_132 Y_X4_wearTo g1 (by decide) rfl rfl (Nat.le_of_ble_eq_true rfl) (Nat.le_of_ble_eq_true rfl) (by decide) (by decide) (c_wearToL L0 hp) (fun r h4 e7 => ?_)
      obtain ⟨e0, L5, sm6⟩ := e7
      cases e0
      have f8 := sm6.at f3 (by simp)
      have f9 := sm6.at fta (by simp; omega)
      have sm10 := sm1.tr sm6
      obtain ⟨frg11, pug11, svg11, g11, -⟩ := id L5
      refine x_aload_n dX11_squeeze_41 1 rfl ?_
      refine x_get (v := .ref 21) dX11_squeeze_42 fX11_37 f8 (by decide) rfl ?_
      refine x_aload dX11_squeeze_45 0 rfl ?_
      refine x_get (v := .int ((curR n dy rc t) (164 + 24 * k))) dX11_squeeze_47 fX11_135 f9 (by omega) rfl ?_
      refine x_iload_n dX11_squeeze_50 4 rfl ?_
      refine x_iconst (v := 0) dX11_squeeze_51 (by decide) ?_
      refine x_callV (rf' := 1) (rl' := 21) [.int ((curR n dy rc t) (164 + 24 * k)), .int hh, .int 0] [] dX11_squeeze_52 vX11_140 Y_X4_squeezeOf g11 (by decide) rfl rfl (Nat.le_of_ble_eq_true rfl) (Nat.le_of_ble_eq_true rfl) (by decide) (by decide) (c_squeezeOfL (x0 := 0) L5 hp (by omega)) (fun _ _ e5 => ?_)
      cases e5
      rw [Nat.sub_zero, ← SQ_P]
      exact x_iret dX11_squeeze_55 rfl ⟨by rw [spSq, if_neg (fun q => q.elim nb1 (fun q => q.elim nb2 (fun q => q.elim hH hK))), ck, cs], L5.cu hp, sm10⟩

theorem c_squeeze {G : GT} {h : List PE} {n td : Nat} {dy : Nat → Int32} {rc : Nat → Nat → Int32} {ct : Nat → Nat × Nat × Nat × Nat} {fk br t : Int32} {th sd : Int32} {hh kt : Int32} (hfa : FaR h n td fk br) (hbk : BkR h n dy rc ct) (hn : n ≤ 20) (hcu : CuR h) (W : WFk (curR n dy rc t) (curC n dy ct t)) : CT G mX11_squeeze 5 110 [.ref 3, .int th, .int sd, .int hh, .int kt, .int t] h (fun o => o.1 = some (.int (spSq (curR n dy rc t) (curC n dy ct t) th sd hh kt)) ∧ CuR o.2 ∧ Sm [21, 22, 23, 24] h o.2) := by
  by_cases h1 : bT (curC n dy ct t) th
  · exact c_squeezeN1 hfa hbk hn hcu W h1
  · obtain ⟨k, hk, rfl⟩ := ix_of (by have := W.2.2.2.1; omega) h1
    by_cases h2 : bS sd
    · exact c_squeezeN2 hfa hbk hn hcu W hk h2
    · obtain ⟨s, hs, rfl⟩ := ix_of (m := 6) (by decide) h2
      exact c_squeezeS hfa hbk hn hcu W hk hs

set_option maxRecDepth 100000 in
set_option maxHeartbeats 4000000 in
theorem c_blowN1 {G : GT} {h : List PE} {n td : Nat} {dy : Nat → Int32} {rc : Nat → Nat → Int32} {ct : Nat → Nat × Nat × Nat × Nat} {fk br t : Int32} {th sd : Int32} {hh kt : Int32} (hfa : FaR h n td fk br) (hbk : BkR h n dy rc ct) (hn : n ≤ 20) (hcu : CuR h) (W : WFk (curR n dy rc t) (curC n dy ct t)) (hs : bT (curC n dy ct t) th) : CT G mX11_blow 5 110 [.ref 3, .int th, .int sd, .int hh, .int kt, .int t] h (fun o => o.1 = some (.int (spBl (curR n dy rc t) (curC n dy ct t) th sd hh kt)) ∧ CuR o.2 ∧ Sm [21, 22, 23, 24] h o.2) := by
  have f3 : h[3]? = some (cO 11 [.ref 4, .ref 6, .ref 15, .ref 16, .ref 21, .ref 25, .ref 32, .ref 35, .int (nI n), .int (nI td), .int fk, .int br]) := hfa
  show X (NF G) G mX11_blow 5 110 0 [(0, .ref 3), (1, .int th), (2, .int sd), (3, .int hh), (4, .int kt), (5, .int t)] [] h _
  refine x_aload_n dX11_blow_0 0 rfl ?_
  refine x_iload_n dX11_blow_1 1 rfl ?_
  refine x_iload_n dX11_blow_2 2 rfl ?_
  refine x_iload dX11_blow_3 5 rfl ?_
  refine x_callV (rf' := 4) (rl' := 86) [.int th, .int sd, .int t] [] dX11_blow_5 vX11_125 Y_X11_putOnPad f3 (by decide) rfl rfl (Nat.le_of_ble_eq_true rfl) (Nat.le_of_ble_eq_true rfl) (by decide) (by decide) (c_putOnPadN1 hfa hbk hn hs) (fun _ _ e1 => ?_)
  cases e1
  refine x_astoreN (lv2 := [(6, .null), (0, .ref 3), (1, .int th), (2, .int sd), (3, .int hh), (4, .int kt), (5, .int t)]) dX11_blow_8 (by decide) rfl ?_
  refine x_aloadN dX11_blow_10 0 rfl ?_
  refine x_ifnullN (tgt := 30) dX11_blow_12 (by decide) ?_
  refine x_iconst (v := (-1)) dX11_blow_30 (by decide) ?_
  exact x_iret dX11_blow_31 rfl ⟨by rw [spBl, if_pos (Or.inl hs)], hcu, Sm.rf⟩

set_option maxRecDepth 100000 in
set_option maxHeartbeats 4000000 in
theorem c_blowN2 {G : GT} {h : List PE} {n td : Nat} {dy : Nat → Int32} {rc : Nat → Nat → Int32} {ct : Nat → Nat × Nat × Nat × Nat} {fk br t : Int32} {sd : Int32} {k : Nat} {hh kt : Int32} (hfa : FaR h n td fk br) (hbk : BkR h n dy rc ct) (hn : n ≤ 20) (hcu : CuR h) (W : WFk (curR n dy rc t) (curC n dy ct t)) (hk : k < (curC n dy ct t).2.1) (hs : bS sd) : CT G mX11_blow 5 110 [.ref 3, .int (nI k), .int sd, .int hh, .int kt, .int t] h (fun o => o.1 = some (.int (spBl (curR n dy rc t) (curC n dy ct t) (nI k) sd hh kt)) ∧ CuR o.2 ∧ Sm [21, 22, 23, 24] h o.2) := by
  have f3 : h[3]? = some (cO 11 [.ref 4, .ref 6, .ref 15, .ref 16, .ref 21, .ref 25, .ref 32, .ref 35, .int (nI n), .int (nI td), .int fk, .int br]) := hfa
  show X (NF G) G mX11_blow 5 110 0 [(0, .ref 3), (1, .int (nI k)), (2, .int sd), (3, .int hh), (4, .int kt), (5, .int t)] [] h _
  refine x_aload_n dX11_blow_0 0 rfl ?_
  refine x_iload_n dX11_blow_1 1 rfl ?_
  refine x_iload_n dX11_blow_2 2 rfl ?_
  refine x_iload dX11_blow_3 5 rfl ?_
  refine x_callV (rf' := 4) (rl' := 86) [.int (nI k), .int sd, .int t] [] dX11_blow_5 vX11_125 Y_X11_putOnPad f3 (by decide) rfl rfl (Nat.le_of_ble_eq_true rfl) (Nat.le_of_ble_eq_true rfl) (by decide) (by decide) (c_putOnPadN2 hfa hbk hn W hk hs) (fun _ _ e1 => ?_)
  cases e1
  refine x_astoreN (lv2 := [(6, .null), (0, .ref 3), (1, .int (nI k)), (2, .int sd), (3, .int hh), (4, .int kt), (5, .int t)]) dX11_blow_8 (by decide) rfl ?_
  refine x_aloadN dX11_blow_10 0 rfl ?_
  refine x_ifnullN (tgt := 30) dX11_blow_12 (by decide) ?_
  refine x_iconst (v := (-1)) dX11_blow_30 (by decide) ?_
  exact x_iret dX11_blow_31 rfl ⟨by rw [spBl, if_pos (Or.inr (Or.inl hs))], hcu, Sm.rf⟩

set_option maxRecDepth 100000 in
set_option maxHeartbeats 4000000 in
theorem c_blowS {G : GT} {h : List PE} {n td : Nat} {dy : Nat → Int32} {rc : Nat → Nat → Int32} {ct : Nat → Nat × Nat × Nat × Nat} {fk br t : Int32} {k sd : Nat} {hh kt : Int32} (hfa : FaR h n td fk br) (hbk : BkR h n dy rc ct) (hn : n ≤ 20) (hcu : CuR h) (W : WFk (curR n dy rc t) (curC n dy ct t)) (hk : k < (curC n dy ct t).2.1) (hsd : sd < 6) : CT G mX11_blow 5 110 [.ref 3, .int (nI k), .int (nI sd), .int hh, .int kt, .int t] h (fun o => o.1 = some (.int (spBl (curR n dy rc t) (curC n dy ct t) (nI k) (nI sd) hh kt)) ∧ CuR o.2 ∧ Sm [21, 22, 23, 24] h o.2) := by
  have f3 : h[3]? = some (cO 11 [.ref 4, .ref 6, .ref 15, .ref 16, .ref 21, .ref 25, .ref 32, .ref 35, .int (nI n), .int (nI td), .int fk, .int br]) := hfa
  have w4 := W.2.2.2.1
  have hp := pcN_le (sd := sd) W (W.2.2.2.2.2.2.2.2.2.1 k hk) hsd
  have ck : tO (nI k) = 164 + 24 * k := by show 164 + 24 * (nI k).toNatClampNeg = _; rw [nI_clamp (by omega)]
  have cs : (nI sd).toNatClampNeg = sd := nI_clamp (by omega)
  obtain ⟨⟨wn, hw, hw1, hw2⟩, -⟩ := W.2.2.2.2.2.2.2.2.2.1 k hk
  have hw9 := nI_one hw1 (show wn < 2 ^ 31 by omega)
  rw [← hw] at hw9
  have nb1 : ¬ bT (curC n dy ct t) (nI k) := fun q => q.elim (nI_pos (by omega)) (fun q => absurd ((nI_leI (by omega) (by omega)).mp q) (by omega))
  have nb2 : ¬ bS (nI sd) := fun q => q.elim (nI_pos (by omega)) (fun q => absurd ((nI_leI (a := 6) (by decide) (by omega)).mp q) (by omega))
  show X (NF G) G mX11_blow 5 110 0 [(0, .ref 3), (1, .int (nI k)), (2, .int (nI sd)), (3, .int hh), (4, .int kt), (5, .int t)] [] h _
  refine x_aload_n dX11_blow_0 0 rfl ?_
  refine x_iload_n dX11_blow_1 1 rfl ?_
  refine x_iload_n dX11_blow_2 2 rfl ?_
  refine x_iload dX11_blow_3 5 rfl ?_
  refine x_callV (rf' := 4) (rl' := 86) [.int (nI k), .int (nI sd), .int t] [] dX11_blow_5 vX11_125 Y_X11_putOnPad f3 (by decide) rfl rfl (Nat.le_of_ble_eq_true rfl) (Nat.le_of_ble_eq_true rfl) (by decide) (by decide) (c_putOnPadS hfa hbk hn hcu W hk hsd) (fun r h1 e1 => ?_)
  obtain ⟨ta, e0, L0, sm1, fq, hT⟩ := e1
  cases e0
  obtain ⟨hta, s1, s2, s3, s4, z1, z2, z3, z4, -, -, -, -, fta, -⟩ := id hT
  have f3 := sm1.at f3 (by decide)
  obtain ⟨frg1, pug1, svg1, g1, -⟩ := id L0
  refine x_astore (lv2 := [(6, .ref ta), (0, .ref 3), (1, .int (nI k)), (2, .int (nI sd)), (3, .int hh), (4, .int kt), (5, .int t)]) dX11_blow_8 (by decide) rfl ?_
  refine x_aload dX11_blow_10 0 rfl ?_
  refine x_ifnull dX11_blow_12 ?_
  refine x_iload_n dX11_blow_15 4 rfl ?_
  refine x_callS (rf' := 0) (rl' := 0) [.int hh] [] dX11_blow_16 vX11_129 Y_X11_isHeight rfl rfl (Nat.le_of_ble_eq_true rfl) (Nat.le_of_ble_eq_true rfl) (by decide) (by decide) c_isHeight (fun _ _ e2 => ?_)
  cases e2
  by_cases hH : bH hh
  · rw [if_pos hH]
    refine x_if_eq (tgt := 30) dX11_blow_19 (by decide) (fun c_19 => ?_) (fun c_19 => absurd (by decide) c_19)
    refine x_iconst (v := (-1)) dX11_blow_30 (by decide) ?_
    exact x_iret dX11_blow_31 rfl ⟨by rw [spBl, if_pos (Or.inr (Or.inr (Or.inl hH)))], L0.cu hp, sm1⟩
  · rw [if_neg hH]
    refine x_if_eq (tgt := 30) dX11_blow_19 (by decide) (fun c_19 => absurd c_19 (by decide)) (fun c_19 => ?_)
    refine x_iload dX11_blow_22 5 rfl ?_
    refine x_callS (rf' := 0) (rl' := 0) [.int kt] [] dX11_blow_24 vX11_115 Y_X11_isKept rfl rfl (Nat.le_of_ble_eq_true rfl) (Nat.le_of_ble_eq_true rfl) (by decide) (by decide) c_isKept (fun _ _ e3 => ?_)
    cases e3
    by_cases hK : bK kt
    · rw [if_pos hK]
      refine x_if_ne (tgt := 32) dX11_blow_27 (by decide) (fun c_27 => absurd (by decide) c_27) (fun c_27 => ?_)
      refine x_iconst (v := (-1)) dX11_blow_30 (by decide) ?_
      exact x_iret dX11_blow_31 rfl ⟨by rw [spBl, if_pos (Or.inr (Or.inr (Or.inr hK)))], L0.cu hp, sm1⟩
    · rw [if_neg hK]
      refine x_if_ne (tgt := 32) dX11_blow_27 (by decide) (fun c_27 => ?_) (fun c_27 => absurd c_27 (by decide))
      refine x_aload_n dX11_blow_32 1 rfl ?_
      refine x_get (v := .ref 21) dX11_blow_33 fX11_37 f3 (by decide) rfl ?_
      refine x_iload dX11_blow_36 5 rfl ?_
      refine x_callV (rf' := 0) (rl' := 0) [.int kt] [] dX11_blow_38 vX11_132 Y_X4_wearTo g1 (by decide) rfl rfl (Nat.le_of_ble_eq_true rfl) (Nat.le_of_ble_eq_true rfl) (by decide) (by decide) (c_wearToL L0 hp) (fun r h4 e7 => ?_)
      obtain ⟨e0, L5, sm6⟩ := e7
      cases e0
      have f8 := sm6.at f3 (by simp)
      have f9 := sm6.at fta (by simp; omega)
      have sm10 := sm1.tr sm6
      obtain ⟨frg11, pug11, svg11, g11, -⟩ := id L5
      refine x_aload_n dX11_blow_41 1 rfl ?_
      refine x_get (v := .ref 21) dX11_blow_42 fX11_37 f8 (by decide) rfl ?_
      refine x_aload dX11_blow_45 0 rfl ?_
      refine x_get (v := .int ((curR n dy rc t) (164 + 24 * k))) dX11_blow_47 fX11_135 f9 (by omega) rfl ?_
      refine x_iload_n dX11_blow_50 4 rfl ?_
      refine x_callV (rf' := 2) (rl' := 45) [.int ((curR n dy rc t) (164 + 24 * k)), .int hh] [] dX11_blow_51 vX11_144 Y_X4_blowOf g11 (by decide) rfl rfl (Nat.le_of_ble_eq_true rfl) (Nat.le_of_ble_eq_true rfl) (by decide) (by decide) (c_blowOfL L5 hp hw9.1 hw9.2) (fun _ _ e5 => ?_)
      cases e5
      exact x_iret dX11_blow_54 rfl ⟨by rw [spBl, if_neg (fun q => q.elim nb1 (fun q => q.elim nb2 (fun q => q.elim hH hK))), ck, cs], L5.cu hp, sm10⟩

theorem c_blow {G : GT} {h : List PE} {n td : Nat} {dy : Nat → Int32} {rc : Nat → Nat → Int32} {ct : Nat → Nat × Nat × Nat × Nat} {fk br t : Int32} {th sd : Int32} {hh kt : Int32} (hfa : FaR h n td fk br) (hbk : BkR h n dy rc ct) (hn : n ≤ 20) (hcu : CuR h) (W : WFk (curR n dy rc t) (curC n dy ct t)) : CT G mX11_blow 5 110 [.ref 3, .int th, .int sd, .int hh, .int kt, .int t] h (fun o => o.1 = some (.int (spBl (curR n dy rc t) (curC n dy ct t) th sd hh kt)) ∧ CuR o.2 ∧ Sm [21, 22, 23, 24] h o.2) := by
  by_cases h1 : bT (curC n dy ct t) th
  · exact c_blowN1 hfa hbk hn hcu W h1
  · obtain ⟨k, hk, rfl⟩ := ix_of (by have := W.2.2.2.1; omega) h1
    by_cases h2 : bS sd
    · exact c_blowN2 hfa hbk hn hcu W hk h2
    · obtain ⟨s, hs, rfl⟩ := ix_of (m := 6) (by decide) h2
      exact c_blowS hfa hbk hn hcu W hk hs

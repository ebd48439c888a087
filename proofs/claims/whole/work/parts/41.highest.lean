theorem btrue {b : Bool} (h : ¬ b = false) : b = true := by cases b <;> simp_all

set_option maxRecDepth 100000 in
set_option maxHeartbeats 4000000 in
theorem l_greatest {G : GT} {h : List PE} {rec : Nat → Int32} {c : Nat × Nat × Nat × Nat} {k sd kn wn : Nat} {ms : Int64} (W : WFk rec c) (hk : k < c.2.1) (hsd : sd < 6) (hkn : kn ≤ 200) (hw : 1 ≤ wn) (hw2 : wn ≤ 200000) (L : Laid h rec (164 + 24 * k) sd (nI kn)) : ∀ (j hn : Nat), j ≤ 15 → hn ≤ 30000 → hn < topF (WI rec (164 + 24 * k) sd kn wn ms.toInt) → topF (WI rec (164 + 24 * k) sd kn wn ms.toInt) ≤ hn + 2 ^ j → X (NF G) G mX4_greatestHeight 4 92 20 [(5, .int (nI (stp j))), (4, .int (nI hn)), (0, .ref 21), (1, .int (nI wn)), (2, .long ms)] [] h (fun o => o = (some (.int (lcI (topF (WI rec (164 + 24 * k) sd kn wn ms.toInt)))), h)) := by
  have hp := pcN_le (sd := sd) W (W.2.2.2.2.2.2.2.2.2.1 k hk) hsd
  have hw9 := nI_one hw (show wn < 2 ^ 31 by omega)
  have hD : Dn (WI rec (164 + 24 * k) sd kn wn ms.toInt) := WI_dn W hk hsd
  obtain ⟨frg, pug, svg, g21, -⟩ := id L
  intro j
  induction j with
  | zero =>
    intro hn hj h1 h2 h3
    have z0 : stp 0 = 0 := rfl
    refine x_iload dX4_greatestHeight_20 0 rfl ?_
    refine x_if_leN (tgt := 66) (a := (stp 0)) (by omega) dX4_greatestHeight_22 (by decide) (fun c_22 => ?_) (fun c_22 => absurd (Nat.le_refl 0) c_22)
    refine x_iload dX4_greatestHeight_66 1 rfl ?_
    exact x_iret dX4_greatestHeight_68 rfl (by rw [show topF (WI rec (164 + 24 * k) sd kn wn ms.toInt) = hn + 1 by (have h4 : topF (WI rec (164 + 24 * k) sd kn wn ms.toInt) ≤ hn + 1 := h3; omega), lcI_succ])
  | succ j ih =>
    intro hn hj h1 h2 h3
    have p1 := stp_pos j
    have p2 := stp_le hj
    have p3 := stp_two j
    have p4 := stp_half j
    have p5 := topF_le (WI rec (164 + 24 * k) sd kn wn ms.toInt)
    refine x_iload dX4_greatestHeight_20 0 rfl ?_
    refine x_if_leN (tgt := 66) (a := (stp (j + 1))) (by omega) dX4_greatestHeight_22 (by decide) (fun c_22 => absurd c_22 (by omega)) (fun c_22 => ?_)
    refine x_iload dX4_greatestHeight_25 1 rfl ?_
    refine x_iload dX4_greatestHeight_27 0 rfl ?_
    refine x_iaddN (a := hn) (b := (stp (j + 1))) dX4_greatestHeight_29 ?_
    refine x_sipush (v := 30000) dX4_greatestHeight_30 (by decide) ?_
    refine x_icmp_gtN (tgt := 57) (a := (hn + (stp (j + 1)))) (b := 30000) (by omega) (by omega) dX4_greatestHeight_33 (by decide) (fun c_33 => ?_) (fun c_33 => ?_)
    · refine x_iload dX4_greatestHeight_57 0 rfl ?_
      refine x_iconst (v := 2) dX4_greatestHeight_59 (by decide) ?_
      refine x_idivN (a := (stp (j + 1))) (b := 2) (by omega) (by omega) (by omega) dX4_greatestHeight_60 ?_
      refine x_istore (lv2 := [(5, .int (nI ((stp (j + 1)) / 2))), (4, .int (nI hn)), (0, .ref 21), (1, .int (nI wn)), (2, .long ms)]) dX4_greatestHeight_61 (by decide) rfl ?_
      refine x_goto (tgt := 20) dX4_greatestHeight_63 (by decide) ?_
      refine x_perm [0, 1, 2, 3, 4] rfl ?_
      rw [p4]
      exact ih hn (by omega) h1 h2 (by omega)
    · refine x_aload_n dX4_greatestHeight_36 2 rfl ?_
      refine x_iload_n dX4_greatestHeight_37 3 rfl ?_
      refine x_iload dX4_greatestHeight_38 1 rfl ?_
      refine x_iload dX4_greatestHeight_40 0 rfl ?_
      refine x_iaddN (a := hn) (b := (stp (j + 1))) dX4_greatestHeight_42 ?_
      refine x_lload_n dX4_greatestHeight_43 4 rfl ?_
      refine x_callV (rf' := 3) (rl' := 67) [.int (nI wn), .int (nI (hn + (stp (j + 1)))), .long ms] [] dX4_greatestHeight_44 vX4_110 Y_X4_isWithin g21 (by decide) rfl rfl (Nat.le_of_ble_eq_true rfl) (Nat.le_of_ble_eq_true rfl) (by decide) (by decide) (c_isWithinL (hh := nI ((hn + (stp (j + 1))))) L hp hw9.1 hw9.2) (fun _ _ e1 => ?_)
      cases e1
      by_cases hb : WI rec (164 + 24 * k) sd kn wn ms.toInt ((hn + (stp (j + 1)))) = false
      · rw [if_pos ((WI_BL W hk hsd hkn hw hw2 (by omega)).mpr hb)]
        refine x_if_eq (tgt := 57) dX4_greatestHeight_47 (by decide) (fun c_47 => ?_) (fun c_47 => absurd (by decide) c_47)
        refine x_iload dX4_greatestHeight_57 0 rfl ?_
        refine x_iconst (v := 2) dX4_greatestHeight_59 (by decide) ?_
        refine x_idivN (a := (stp (j + 1))) (b := 2) (by omega) (by omega) (by omega) dX4_greatestHeight_60 ?_
        refine x_istore (lv2 := [(5, .int (nI ((stp (j + 1)) / 2))), (4, .int (nI hn)), (0, .ref 21), (1, .int (nI wn)), (2, .long ms)]) dX4_greatestHeight_61 (by decide) rfl ?_
        refine x_goto (tgt := 20) dX4_greatestHeight_63 (by decide) ?_
        refine x_perm [0, 1, 2, 3, 4] rfl ?_
        rw [p4]
        have := topF_le_of hD (by omega) hb
        exact ih hn (by omega) h1 h2 (by omega)
      · rw [if_neg (fun q => hb ((WI_BL W hk hsd hkn hw hw2 (by omega)).mp q))]
        refine x_if_eq (tgt := 57) dX4_greatestHeight_47 (by decide) (fun c_47 => absurd c_47 (by decide)) (fun c_47 => ?_)
        refine x_iload dX4_greatestHeight_50 1 rfl ?_
        refine x_iload dX4_greatestHeight_52 0 rfl ?_
        refine x_iaddN (a := hn) (b := (stp (j + 1))) dX4_greatestHeight_54 ?_
        refine x_istore (lv2 := [(4, .int (nI (hn + (stp (j + 1))))), (5, .int (nI (stp (j + 1)))), (0, .ref 21), (1, .int (nI wn)), (2, .long ms)]) dX4_greatestHeight_55 (by decide) rfl ?_
        refine x_iload dX4_greatestHeight_57 1 rfl ?_
        refine x_iconst (v := 2) dX4_greatestHeight_59 (by decide) ?_
        refine x_idivN (a := (stp (j + 1))) (b := 2) (by omega) (by omega) (by omega) dX4_greatestHeight_60 ?_
        refine x_istore (lv2 := [(5, .int (nI ((stp (j + 1)) / 2))), (4, .int (nI (hn + (stp (j + 1))))), (0, .ref 21), (1, .int (nI wn)), (2, .long ms)]) dX4_greatestHeight_61 (by decide) rfl ?_
        refine x_goto (tgt := 20) dX4_greatestHeight_63 (by decide) ?_
        refine x_perm [0, 1, 2, 3, 4] rfl ?_
        rw [p4]
        have := (topF_lt hD (by omega)).mpr (btrue hb)
        exact ih (hn + stp (j + 1)) (by omega) (by omega) (by omega) (by omega)

set_option maxRecDepth 100000 in
set_option maxHeartbeats 4000000 in
theorem c_greatest {G : GT} {h : List PE} {rec : Nat → Int32} {c : Nat × Nat × Nat × Nat} {k sd kn wn : Nat} {ms : Int64} (W : WFk rec c) (hk : k < c.2.1) (hsd : sd < 6) (hkn : kn ≤ 200) (hw : 1 ≤ wn) (hw2 : wn ≤ 200000) (L : Laid h rec (164 + 24 * k) sd (nI kn))  : CT G mX4_greatestHeight 4 92 [.ref 21, .int (nI wn), .long ms] h (fun o => o = (some (.int (lcI (topF (WI rec (164 + 24 * k) sd kn wn ms.toInt)))), h)) := by
  have hp := pcN_le (sd := sd) W (W.2.2.2.2.2.2.2.2.2.1 k hk) hsd
  have hw9 := nI_one hw (show wn < 2 ^ 31 by omega)
  have hD : Dn (WI rec (164 + 24 * k) sd kn wn ms.toInt) := WI_dn W hk hsd
  obtain ⟨frg, pug, svg, g21, -⟩ := id L
  show X (NF G) G mX4_greatestHeight 4 92 0 [(0, .ref 21), (1, .int (nI wn)), (2, .long ms)] [] h _
  refine x_aload_n dX4_greatestHeight_0 0 rfl ?_
  refine x_iload_n dX4_greatestHeight_1 1 rfl ?_
  refine x_iconst (v := 0) dX4_greatestHeight_2 (by decide) ?_
  refine x_lload_n dX4_greatestHeight_3 2 rfl ?_
  refine x_callV (rf' := 3) (rl' := 67) [.int (nI wn), .int 0, .long ms] [] dX4_greatestHeight_4 vX4_110 Y_X4_isWithin g21 (by decide) rfl rfl (Nat.le_of_ble_eq_true rfl) (Nat.le_of_ble_eq_true rfl) (by decide) (by decide) (c_isWithinL (hh := nI 0) L hp hw9.1 hw9.2) (fun _ _ e1 => ?_)
  cases e1
  by_cases hb : WI rec (164 + 24 * k) sd kn wn ms.toInt 0 = false
  · rw [if_pos ((WI_BL W hk hsd hkn hw hw2 (by omega)).mpr hb)]
    refine x_if_ne (tgt := 12) dX4_greatestHeight_7 (by decide) (fun c_7 => absurd (by decide) c_7) (fun c_7 => ?_)
    refine x_iconst (v := (-1)) dX4_greatestHeight_10 (by decide) ?_
    exact x_iret dX4_greatestHeight_11 rfl (by rw [topF_0 hb]; rfl)
  · rw [if_neg (fun q => hb ((WI_BL W hk hsd hkn hw hw2 (by omega)).mp q))]
    refine x_if_ne (tgt := 12) dX4_greatestHeight_7 (by decide) (fun c_7 => ?_) (fun c_7 => absurd c_7 (by decide))
    refine x_iconst (v := 0) dX4_greatestHeight_12 (by decide) ?_
    refine x_istore (lv2 := [(4, .int 0), (0, .ref 21), (1, .int (nI wn)), (2, .long ms)]) dX4_greatestHeight_13 (by decide) rfl ?_
    refine x_sipush (v := 16384) dX4_greatestHeight_15 (by decide) ?_
    refine x_istore (lv2 := [(5, .int 16384), (4, .int 0), (0, .ref 21), (1, .int (nI wn)), (2, .long ms)]) dX4_greatestHeight_18 (by decide) rfl ?_
    refine x_perm [0, 1, 2, 3, 4] rfl ?_
    have := (topF_lt hD (j := 0) (by omega)).mpr (btrue hb)
    exact l_greatest W hk hsd hkn hw hw2 L 15 0 (by omega) (by omega) (by omega) (Nat.le_trans (topF_le _) (by decide))

noncomputable def spHi (rec : Nat → Int32) (c : Nat × Nat × Nat × Nat) (th sd : Int32) : Int32 := if bT c th ∨ bS sd then -1 else lcI (topF (WI rec (tO th) sd.toNatClampNeg 100 (rec (tO th)).toNatClampNeg (rec (tO th + 4)).toInt))
noncomputable def spRe (rec : Nat → Int32) (c : Nat × Nat × Nat × Nat) (th sd a b wh : Int32) : Int32 := if bT c th ∨ bS sd ∨ (wh < 0 ∨ 1 < wh) then -1 else if topF (WI rec (tO th) sd.toNatClampNeg 100 (rec (tO th)).toNatClampNeg (a.toInt - 1)) < topF (WI rec (tO th) sd.toNatClampNeg 100 (rec (tO th)).toNatClampNeg b.toInt) then (if wh = 1 then lcI (topF (WI rec (tO th) sd.toNatClampNeg 100 (rec (tO th)).toNatClampNeg b.toInt)) else nI (topF (WI rec (tO th) sd.toNatClampNeg 100 (rec (tO th)).toNatClampNeg (a.toInt - 1)))) else -1

set_option maxRecDepth 100000 in
set_option maxHeartbeats 4000000 in
theorem c_highestN1 {G : GT} {h : List PE} {n td : Nat} {dy : Nat → Int32} {rc : Nat → Nat → Int32} {ct : Nat → Nat × Nat × Nat × Nat} {fk br t : Int32} {th sd : Int32} (hfa : FaR h n td fk br) (hbk : BkR h n dy rc ct) (hn : n ≤ 20) (hcu : CuR h) (W : WFk (curR n dy rc t) (curC n dy ct t)) (hs : bT (curC n dy ct t) th) : CT G mX11_highest 5 117 [.ref 3, .int th, .int sd, .int t] h (fun o => o.1 = some (.int (spHi (curR n dy rc t) (curC n dy ct t) th sd)) ∧ CuR o.2 ∧ Sm [21, 22, 23, 24] h o.2) := by
  have f3 : h[3]? = some (cO 11 [.ref 4, .ref 6, .ref 15, .ref 16, .ref 21, .ref 25, .ref 32, .ref 35, .int (nI n), .int (nI td), .int fk, .int br]) := hfa
  show X (NF G) G mX11_highest 5 117 0 [(0, .ref 3), (1, .int th), (2, .int sd), (3, .int t)] [] h _
  refine x_aload_n dX11_highest_0 0 rfl ?_
  refine x_iload_n dX11_highest_1 1 rfl ?_
  refine x_iload_n dX11_highest_2 2 rfl ?_
  refine x_iload_n dX11_highest_3 3 rfl ?_
  refine x_callV (rf' := 4) (rl' := 86) [.int th, .int sd, .int t] [] dX11_highest_4 vX11_125 Y_X11_putOnPad f3 (by decide) rfl rfl (Nat.le_of_ble_eq_true rfl) (Nat.le_of_ble_eq_true rfl) (by decide) (by decide) (c_putOnPadN1 hfa hbk hn hs) (fun _ _ e1 => ?_)
  cases e1
  refine x_astoreN (lv2 := [(4, .null), (0, .ref 3), (1, .int th), (2, .int sd), (3, .int t)]) dX11_highest_7 (by decide) rfl ?_
  refine x_aloadN dX11_highest_9 0 rfl ?_
  refine x_ifnonnullN dX11_highest_11 ?_
  refine x_iconst (v := (-1)) dX11_highest_14 (by decide) ?_
  refine x_goto (tgt := 36) dX11_highest_15 (by decide) ?_
  exact x_iret dX11_highest_36 rfl ⟨by rw [spHi, if_pos (Or.inl hs)], hcu, Sm.rf⟩

set_option maxRecDepth 100000 in
set_option maxHeartbeats 4000000 in
theorem c_highestN2 {G : GT} {h : List PE} {n td : Nat} {dy : Nat → Int32} {rc : Nat → Nat → Int32} {ct : Nat → Nat × Nat × Nat × Nat} {fk br t : Int32} {sd : Int32} {k : Nat} (hfa : FaR h n td fk br) (hbk : BkR h n dy rc ct) (hn : n ≤ 20) (hcu : CuR h) (W : WFk (curR n dy rc t) (curC n dy ct t)) (hk : k < (curC n dy ct t).2.1) (hs : bS sd) : CT G mX11_highest 5 117 [.ref 3, .int (nI k), .int sd, .int t] h (fun o => o.1 = some (.int (spHi (curR n dy rc t) (curC n dy ct t) (nI k) sd)) ∧ CuR o.2 ∧ Sm [21, 22, 23, 24] h o.2) := by
  have f3 : h[3]? = some (cO 11 [.ref 4, .ref 6, .ref 15, .ref 16, .ref 21, .ref 25, .ref 32, .ref 35, .int (nI n), .int (nI td), .int fk, .int br]) := hfa
  show X (NF G) G mX11_highest 5 117 0 [(0, .ref 3), (1, .int (nI k)), (2, .int sd), (3, .int t)] [] h _
  refine x_aload_n dX11_highest_0 0 rfl ?_
  refine x_iload_n dX11_highest_1 1 rfl ?_
  refine x_iload_n dX11_highest_2 2 rfl ?_
  refine x_iload_n dX11_highest_3 3 rfl ?_
  refine x_callV (rf' := 4) (rl' := 86) [.int (nI k), .int sd, .int t] [] dX11_highest_4 vX11_125 Y_X11_putOnPad f3 (by decide) rfl rfl (Nat.le_of_ble_eq_true rfl) (Nat.le_of_ble_eq_true rfl) (by decide) (by decide) (c_putOnPadN2 hfa hbk hn W hk hs) (fun _ _ e1 => ?_)
  cases e1
  refine x_astoreN (lv2 := [(4, .null), (0, .ref 3), (1, .int (nI k)), (2, .int sd), (3, .int t)]) dX11_highest_7 (by decide) rfl ?_
  refine x_aloadN dX11_highest_9 0 rfl ?_
  refine x_ifnonnullN dX11_highest_11 ?_
  refine x_iconst (v := (-1)) dX11_highest_14 (by decide) ?_
  refine x_goto (tgt := 36) dX11_highest_15 (by decide) ?_
  exact x_iret dX11_highest_36 rfl ⟨by rw [spHi, if_pos (Or.inr hs)], hcu, Sm.rf⟩

set_option maxRecDepth 100000 in
set_option maxHeartbeats 4000000 in
theorem c_highestS {G : GT} {h : List PE} {n td : Nat} {dy : Nat → Int32} {rc : Nat → Nat → Int32} {ct : Nat → Nat × Nat × Nat × Nat} {fk br t : Int32} {k sd : Nat} (hfa : FaR h n td fk br) (hbk : BkR h n dy rc ct) (hn : n ≤ 20) (hcu : CuR h) (W : WFk (curR n dy rc t) (curC n dy ct t)) (hk : k < (curC n dy ct t).2.1) (hsd : sd < 6) : CT G mX11_highest 5 117 [.ref 3, .int (nI k), .int (nI sd), .int t] h (fun o => o.1 = some (.int (spHi (curR n dy rc t) (curC n dy ct t) (nI k) (nI sd))) ∧ CuR o.2 ∧ Sm [21, 22, 23, 24] h o.2) := by
  have f3 : h[3]? = some (cO 11 [.ref 4, .ref 6, .ref 15, .ref 16, .ref 21, .ref 25, .ref 32, .ref 35, .int (nI n), .int (nI td), .int fk, .int br]) := hfa
  have w4 := W.2.2.2.1
  have hp := pcN_le (sd := sd) W (W.2.2.2.2.2.2.2.2.2.1 k hk) hsd
  have ck : tO (nI k) = 164 + 24 * k := by show 164 + 24 * (nI k).toNatClampNeg = _; rw [nI_clamp (by omega)]
  have cs : (nI sd).toNatClampNeg = sd := nI_clamp (by omega)
  obtain ⟨⟨wn, hw, hw1, hw2⟩, -⟩ := W.2.2.2.2.2.2.2.2.2.1 k hk
  have hw9 := nI_one hw1 (show wn < 2 ^ 31 by omega)
  rw [← hw] at hw9
  have nb1 : ¬ bT (curC n dy ct t) (nI k) := fun q => q.elim (nI_pos (by omega)) (fun q => absurd ((nI_leI (by omega) (by omega)).mp q) (by omega))
  have nb2 : ¬ bS (nI sd) := fun q => q.elim (nI_pos (by omega)) (fun q => absurd ((nI_leI (a := 6) (by decide) (by omega)).mp q) (by omega))
  show X (NF G) G mX11_highest 5 117 0 [(0, .ref 3), (1, .int (nI k)), (2, .int (nI sd)), (3, .int t)] [] h _
  refine x_aload_n dX11_highest_0 0 rfl ?_
  refine x_iload_n dX11_highest_1 1 rfl ?_
  refine x_iload_n dX11_highest_2 2 rfl ?_
  refine x_iload_n dX11_highest_3 3 rfl ?_
  refine x_callV (rf' := 4) (rl' := 86) [.int (nI k), .int (nI sd), .int t] [] dX11_highest_4 vX11_125 Y_X11_putOnPad f3 (by decide) rfl rfl (Nat.le_of_ble_eq_true rfl) (Nat.le_of_ble_eq_true rfl) (by decide) (by decide) (c_putOnPadS hfa hbk hn hcu W hk hsd) (fun r h1 e1 => ?_)
  obtain ⟨ta, e0, L0, sm1, fq, hT⟩ := e1
  cases e0
  obtain ⟨hta, s1, s2, s3, s4, z1, z2, z3, z4, -, -, -, -, fta, -⟩ := id hT
  have f3 := sm1.at f3 (by decide)
  obtain ⟨frg1, pug1, svg1, g1, -⟩ := id L0
  refine x_astore (lv2 := [(4, .ref ta), (0, .ref 3), (1, .int (nI k)), (2, .int (nI sd)), (3, .int t)]) dX11_highest_7 (by decide) rfl ?_
  refine x_aload dX11_highest_9 0 rfl ?_
  refine x_ifnonnull (tgt := 18) dX11_highest_11 (by decide) ?_
  refine x_aload_n dX11_highest_18 1 rfl ?_
  refine x_get (v := .ref 21) dX11_highest_19 fX11_37 f3 (by decide) rfl ?_
  refine x_aload dX11_highest_22 0 rfl ?_
  refine x_get (v := .int ((curR n dy rc t) (164 + 24 * k))) dX11_highest_24 fX11_135 fta (by omega) rfl ?_
  refine x_aload dX11_highest_27 0 rfl ?_
  refine x_get (v := .int ((curR n dy rc t) (164 + 24 * k + 4))) dX11_highest_29 fX11_183 fta (by omega) rfl ?_
  refine x_i2l dX11_highest_32 ?_
  rw [hw]
  refine x_callV (rf' := 4) (rl' := 92) [.int (nI wn), .long (((curR n dy rc t) (164 + 24 * k + 4))).toInt64] [] dX11_highest_33 vX11_186 Y_X4_greatestHeight g1 (by decide) rfl rfl (Nat.le_of_ble_eq_true rfl) (Nat.le_of_ble_eq_true rfl) (by decide) (by decide) (c_greatest (kn := 100) (ms := (((curR n dy rc t) (164 + 24 * k + 4))).toInt64) W hk hsd (by omega) hw1 (by omega) L0) (fun _ _ e2 => ?_)
  cases e2
  exact x_iret dX11_highest_36 rfl ⟨by rw [spHi, if_neg (fun q => q.elim nb1 nb2), ck, cs, hw, nI_clamp (show wn < 2 ^ 31 by omega), Int32.toInt_toInt64], L0.cu hp, sm1⟩

theorem c_highest {G : GT} {h : List PE} {n td : Nat} {dy : Nat → Int32} {rc : Nat → Nat → Int32} {ct : Nat → Nat × Nat × Nat × Nat} {fk br t : Int32} {th sd : Int32} (hfa : FaR h n td fk br) (hbk : BkR h n dy rc ct) (hn : n ≤ 20) (hcu : CuR h) (W : WFk (curR n dy rc t) (curC n dy ct t)) : CT G mX11_highest 5 117 [.ref 3, .int th, .int sd, .int t] h (fun o => o.1 = some (.int (spHi (curR n dy rc t) (curC n dy ct t) th sd)) ∧ CuR o.2 ∧ Sm [21, 22, 23, 24] h o.2) := by
  by_cases h1 : bT (curC n dy ct t) th
  · exact c_highestN1 hfa hbk hn hcu W h1
  · obtain ⟨k, hk, rfl⟩ := ix_of (by have := W.2.2.2.1; omega) h1
    by_cases h2 : bS sd
    · exact c_highestN2 hfa hbk hn hcu W hk h2
    · obtain ⟨s, hs, rfl⟩ := ix_of (m := 6) (by decide) h2
      exact c_highestS hfa hbk hn hcu W hk hs

theorem i64_pred (a : Int32) : (a.toInt64 - 1).toInt = a.toInt - 1 := by
  have h1 := Int32.toInt_lt a
  have h2 := Int32.le_toInt a
  rw [Int64.toInt_sub, Int32.toInt_toInt64, show (1 : Int64).toInt = 1 from rfl]
  exact Int.bmod_eq_of_le (by omega) (by omega)
theorem WI_BL3 {rec : Nat → Int32} {c : Nat × Nat × Nat × Nat} {k sd kn wn h : Nat} (W : WFk rec c) (hk : k < c.2.1) (hs : sd < 6) (hkn : kn ≤ 200) (hw : 1 ≤ wn) (hw2 : wn ≤ 200000) (hh : h ≤ 30000) {bl : Int32} (e : BL rec (164 + 24 * k) sd (nI kn) (nI wn) (nI h) = bl) : (bl = -2 → ∀ m, WI rec (164 + 24 * k) sd kn wn m h = false) ∧ (¬ bl = -2 → ∀ m, WI rec (164 + 24 * k) sd kn wn m h = decide (bl.toInt ≤ m)) := by
  subst e
  rw [BL_bN W hk hs hkn hw hw2 hh]
  unfold WI
  cases e : bN rec (164 + 24 * k) sd kn wn h with
  | none => exact ⟨fun _ _ => rfl, fun q => absurd rfl q⟩
  | some v =>
    have hv := bN_le e
    dsimp only
    rw [nI_toInt (by omega)]
    exact ⟨fun q => absurd q (nI_ne_m2 (by omega)), fun _ _ => rfl⟩

set_option maxRecDepth 100000 in
set_option maxHeartbeats 4000000 in
theorem c_recordedN1 {G : GT} {h : List PE} {n td : Nat} {dy : Nat → Int32} {rc : Nat → Nat → Int32} {ct : Nat → Nat × Nat × Nat × Nat} {fk br t : Int32} {th sd : Int32} {a b wh : Int32} (hfa : FaR h n td fk br) (hbk : BkR h n dy rc ct) (hn : n ≤ 20) (hcu : CuR h) (W : WFk (curR n dy rc t) (curC n dy ct t)) (hs : bT (curC n dy ct t) th) : CT G mX11_recorded 5 117 [.ref 3, .int th, .int sd, .int a, .int b, .int t, .int wh] h (fun o => o.1 = some (.int (spRe (curR n dy rc t) (curC n dy ct t) th sd a b wh)) ∧ CuR o.2 ∧ Sm [21, 22, 23, 24] h o.2) := by
  have f3 : h[3]? = some (cO 11 [.ref 4, .ref 6, .ref 15, .ref 16, .ref 21, .ref 25, .ref 32, .ref 35, .int (nI n), .int (nI td), .int fk, .int br]) := hfa
  show X (NF G) G mX11_recorded 5 117 0 [(0, .ref 3), (1, .int th), (2, .int sd), (3, .int a), (4, .int b), (5, .int t), (6, .int wh)] [] h _
  refine x_aload_n dX11_recorded_0 0 rfl ?_
  refine x_iload_n dX11_recorded_1 1 rfl ?_
  refine x_iload_n dX11_recorded_2 2 rfl ?_
  refine x_iload dX11_recorded_3 5 rfl ?_
  refine x_callV (rf' := 4) (rl' := 86) [.int th, .int sd, .int t] [] dX11_recorded_5 vX11_125 Y_X11_putOnPad f3 (by decide) rfl rfl (Nat.le_of_ble_eq_true rfl) (Nat.le_of_ble_eq_true rfl) (by decide) (by decide) (c_putOnPadN1 hfa hbk hn hs) (fun _ _ e1 => ?_)
  cases e1
  refine x_astoreN (lv2 := [(7, .null), (0, .ref 3), (1, .int th), (2, .int sd), (3, .int a), (4, .int b), (5, .int t), (6, .int wh)]) dX11_recorded_8 (by decide) rfl ?_
  refine x_aloadN dX11_recorded_10 0 rfl ?_
  refine x_ifnullN (tgt := 26) dX11_recorded_12 (by decide) ?_
  refine x_iconst (v := (-1)) dX11_recorded_26 (by decide) ?_
  exact x_iret dX11_recorded_27 rfl ⟨by rw [spRe, if_pos (Or.inl hs)], hcu, Sm.rf⟩

set_option maxRecDepth 100000 in
set_option maxHeartbeats 4000000 in
theorem c_recordedN2 {G : GT} {h : List PE} {n td : Nat} {dy : Nat → Int32} {rc : Nat → Nat → Int32} {ct : Nat → Nat × Nat × Nat × Nat} {fk br t : Int32} {sd : Int32} {k : Nat} {a b wh : Int32} (hfa : FaR h n td fk br) (hbk : BkR h n dy rc ct) (hn : n ≤ 20) (hcu : CuR h) (W : WFk (curR n dy rc t) (curC n dy ct t)) (hk : k < (curC n dy ct t).2.1) (hs : bS sd) : CT G mX11_recorded 5 117 [.ref 3, .int (nI k), .int sd, .int a, .int b, .int t, .int wh] h (fun o => o.1 = some (.int (spRe (curR n dy rc t) (curC n dy ct t) (nI k) sd a b wh)) ∧ CuR o.2 ∧ Sm [21, 22, 23, 24] h o.2) := by
  have f3 : h[3]? = some (cO 11 [.ref 4, .ref 6, .ref 15, .ref 16, .ref 21, .ref 25, .ref 32, .ref 35, .int (nI n), .int (nI td), .int fk, .int br]) := hfa
  show X (NF G) G mX11_recorded 5 117 0 [(0, .ref 3), (1, .int (nI k)), (2, .int sd), (3, .int a), (4, .int b), (5, .int t), (6, .int wh)] [] h _
  refine x_aload_n dX11_recorded_0 0 rfl ?_
  refine x_iload_n dX11_recorded_1 1 rfl ?_
  refine x_iload_n dX11_recorded_2 2 rfl ?_
  refine x_iload dX11_recorded_3 5 rfl ?_
  refine x_callV (rf' := 4) (rl' := 86) [.int (nI k), .int sd, .int t] [] dX11_recorded_5 vX11_125 Y_X11_putOnPad f3 (by decide) rfl rfl (Nat.le_of_ble_eq_true rfl) (Nat.le_of_ble_eq_true rfl) (by decide) (by decide) (c_putOnPadN2 hfa hbk hn W hk hs) (fun _ _ e1 => ?_)
  cases e1
  refine x_astoreN (lv2 := [(7, .null), (0, .ref 3), (1, .int (nI k)), (2, .int sd), (3, .int a), (4, .int b), (5, .int t), (6, .int wh)]) dX11_recorded_8 (by decide) rfl ?_
  refine x_aloadN dX11_recorded_10 0 rfl ?_
  refine x_ifnullN (tgt := 26) dX11_recorded_12 (by decide) ?_
  refine x_iconst (v := (-1)) dX11_recorded_26 (by decide) ?_
  exact x_iret dX11_recorded_27 rfl ⟨by rw [spRe, if_pos (Or.inr (Or.inl hs))], hcu, Sm.rf⟩

set_option maxRecDepth 100000 in
set_option maxHeartbeats 4000000 in
theorem c_recordedS {G : GT} {h : List PE} {n td : Nat} {dy : Nat → Int32} {rc : Nat → Nat → Int32} {ct : Nat → Nat × Nat × Nat × Nat} {fk br t : Int32} {k sd : Nat} {a b wh : Int32} (hfa : FaR h n td fk br) (hbk : BkR h n dy rc ct) (hn : n ≤ 20) (hcu : CuR h) (W : WFk (curR n dy rc t) (curC n dy ct t)) (hk : k < (curC n dy ct t).2.1) (hsd : sd < 6) : CT G mX11_recorded 5 117 [.ref 3, .int (nI k), .int (nI sd), .int a, .int b, .int t, .int wh] h (fun o => o.1 = some (.int (spRe (curR n dy rc t) (curC n dy ct t) (nI k) (nI sd) a b wh)) ∧ CuR o.2 ∧ Sm [21, 22, 23, 24] h o.2) := by
  have f3 : h[3]? = some (cO 11 [.ref 4, .ref 6, .ref 15, .ref 16, .ref 21, .ref 25, .ref 32, .ref 35, .int (nI n), .int (nI td), .int fk, .int br]) := hfa
  have w4 := W.2.2.2.1
  have hp := pcN_le (sd := sd) W (W.2.2.2.2.2.2.2.2.2.1 k hk) hsd
  have ck : tO (nI k) = 164 + 24 * k := by show 164 + 24 * (nI k).toNatClampNeg = _; rw [nI_clamp (by omega)]
  have cs : (nI sd).toNatClampNeg = sd := nI_clamp (by omega)
  obtain ⟨⟨wn, hw, hw1, hw2⟩, -⟩ := W.2.2.2.2.2.2.2.2.2.1 k hk
  have hw9 := nI_one hw1 (show wn < 2 ^ 31 by omega)
  rw [← hw] at hw9
  have nb1 : ¬ bT (curC n dy ct t) (nI k) := fun q => q.elim (nI_pos (by omega)) (fun q => absurd ((nI_leI (by omega) (by omega)).mp q) (by omega))
  have nb2 : ¬ bS (nI sd) := fun q => q.elim (nI_pos (by omega)) (fun q => absurd ((nI_leI (a := 6) (by decide) (by omega)).mp q) (by omega))
  show X (NF G) G mX11_recorded 5 117 0 [(0, .ref 3), (1, .int (nI k)), (2, .int (nI sd)), (3, .int a), (4, .int b), (5, .int t), (6, .int wh)] [] h _
  refine x_aload_n dX11_recorded_0 0 rfl ?_
  refine x_iload_n dX11_recorded_1 1 rfl ?_
  refine x_iload_n dX11_recorded_2 2 rfl ?_
  refine x_iload dX11_recorded_3 5 rfl ?_
  refine x_callV (rf' := 4) (rl' := 86) [.int (nI k), .int (nI sd), .int t] [] dX11_recorded_5 vX11_125 Y_X11_putOnPad f3 (by decide) rfl rfl (Nat.le_of_ble_eq_true rfl) (Nat.le_of_ble_eq_true rfl) (by decide) (by decide) (c_putOnPadS hfa hbk hn hcu W hk hsd) (fun r h1 e1 => ?_)
  obtain ⟨ta, e0, L0, sm1, fq, hT⟩ := e1
  cases e0
  obtain ⟨hta, s1, s2, s3, s4, z1, z2, z3, z4, -, -, -, -, fta, -⟩ := id hT
  have f3 := sm1.at f3 (by decide)
  obtain ⟨frg1, pug1, svg1, g1, -⟩ := id L0
  refine x_astore (lv2 := [(7, .ref ta), (0, .ref 3), (1, .int (nI k)), (2, .int (nI sd)), (3, .int a), (4, .int b), (5, .int t), (6, .int wh)]) dX11_recorded_8 (by decide) rfl ?_
  refine x_aload dX11_recorded_10 0 rfl ?_
  refine x_ifnull dX11_recorded_12 ?_
  refine x_iload dX11_recorded_15 7 rfl ?_
  refine x_if_lt (tgt := 26) dX11_recorded_17 (by decide) (fun c_17 => ?_) (fun c_17 => ?_)
  · refine x_iconst (v := (-1)) dX11_recorded_26 (by decide) ?_
    exact x_iret dX11_recorded_27 rfl ⟨by rw [spRe, if_pos (Or.inr (Or.inr (Or.inl c_17)))], L0.cu hp, sm1⟩
  · refine x_iload dX11_recorded_20 7 rfl ?_
    refine x_iconst (v := 1) dX11_recorded_22 (by decide) ?_
    refine x_icmp_le (tgt := 28) dX11_recorded_23 (by decide) (fun c_23 => ?_) (fun c_23 => ?_)
    · have t1 := topF_le (WI (curR n dy rc t) (164 + 24 * k) sd 100 wn (a.toInt - 1))
      have t2 := topF_le (WI (curR n dy rc t) (164 + 24 * k) sd 100 wn b.toInt)
      refine x_iload dX11_recorded_28 7 rfl ?_
      refine x_iconst (v := 1) dX11_recorded_30 (by decide) ?_
      refine x_icmp_ne (tgt := 52) dX11_recorded_31 (by decide) (fun c_31 => ?_) (fun c_31 => ?_)
      · refine x_aload_n dX11_recorded_52 1 rfl ?_
        refine x_get (v := .ref 21) dX11_recorded_53 fX11_37 f3 (by decide) rfl ?_
        refine x_aload dX11_recorded_56 0 rfl ?_
        refine x_get (v := .int ((curR n dy rc t) (164 + 24 * k))) dX11_recorded_58 fX11_135 fta (by omega) rfl ?_
        refine x_iload_n dX11_recorded_61 4 rfl ?_
        refine x_i2l dX11_recorded_62 ?_
        refine x_lconst (v := 1) dX11_recorded_63 (by decide) ?_
        refine x_lsub dX11_recorded_64 ?_
        rw [hw]
        refine x_callV (rf' := 4) (rl' := 92) [.int (nI wn), .long (a.toInt64 - 1)] [] dX11_recorded_65 vX11_186 Y_X4_greatestHeight g1 (by decide) rfl rfl (Nat.le_of_ble_eq_true rfl) (Nat.le_of_ble_eq_true rfl) (by decide) (by decide) (c_greatest (kn := 100) (ms := (a.toInt64 - 1)) W hk hsd (by omega) hw1 (by omega) L0) (fun _ _ e2 => ?_)
        cases e2
        rw [i64_pred]
        refine x_iconst (v := 1) dX11_recorded_68 (by decide) ?_
        refine x_iadd dX11_recorded_69 ?_
        refine x_istore (lv2 := [(8, .int ((lcI (topF (WI (curR n dy rc t) (164 + 24 * k) sd 100 wn (a.toInt - 1)))) + 1)), (7, .ref ta), (0, .ref 3), (1, .int (nI k)), (2, .int (nI sd)), (3, .int a), (4, .int b), (5, .int t), (6, .int wh)]) dX11_recorded_70 (by decide) rfl ?_
        refine x_iload dX11_recorded_72 0 rfl ?_
        rw [show lcI (topF (WI (curR n dy rc t) (164 + 24 * k) sd 100 wn (a.toInt - 1))) + 1 = nI (topF (WI (curR n dy rc t) (164 + 24 * k) sd 100 wn (a.toInt - 1))) from by (rw [show (1 : Int32) = nI 1 from rfl, lcI_add (by omega)]; rfl)]
        refine x_callS (rf' := 0) (rl' := 0) [.int (nI (topF (WI (curR n dy rc t) (164 + 24 * k) sd 100 wn (a.toInt - 1))))] [] dX11_recorded_74 vX11_129 Y_X11_isHeight rfl rfl (Nat.le_of_ble_eq_true rfl) (Nat.le_of_ble_eq_true rfl) (by decide) (by decide) c_isHeight (fun _ _ e3 => ?_)
        cases e3
        by_cases hF : 30000 < (topF (WI (curR n dy rc t) (164 + 24 * k) sd 100 wn (a.toInt - 1)))
        · rw [if_pos (show nI (topF (WI (curR n dy rc t) (164 + 24 * k) sd 100 wn (a.toInt - 1))) < 0 ∨ (30000 : Int32) < nI (topF (WI (curR n dy rc t) (164 + 24 * k) sd 100 wn (a.toInt - 1))) from Or.inr ((nI_ltI (a := 30000) (by decide) (by omega)).mpr hF))]
          refine x_if_ne (tgt := 82) dX11_recorded_77 (by decide) (fun c_77 => absurd (by decide) c_77) (fun c_77 => ?_)
          refine x_iconst (v := (-1)) dX11_recorded_80 (by decide) ?_
          exact x_iret dX11_recorded_81 rfl ⟨by rw [spRe, if_neg (fun q => q.elim nb1 (fun q => q.elim nb2 (fun q => q.elim c_17 (fun q => Int32.not_le.mpr q c_23)))), ck, cs, hw, nI_clamp (show wn < 2 ^ 31 by omega)]; rw [if_neg (by omega)], L0.cu hp, sm1⟩
        · rw [if_neg (fun q => q.elim (nI_pos (by omega)) (fun q => hF ((nI_ltI (a := 30000) (by decide) (by omega)).mp q)))]
          refine x_if_ne (tgt := 82) dX11_recorded_77 (by decide) (fun c_77 => ?_) (fun c_77 => absurd c_77 (by decide))
          refine x_aload_n dX11_recorded_82 2 rfl ?_
          refine x_get (v := .ref 21) dX11_recorded_83 fX11_37 f3 (by decide) rfl ?_
          refine x_aload dX11_recorded_86 1 rfl ?_
          refine x_get (v := .int ((curR n dy rc t) (164 + 24 * k))) dX11_recorded_88 fX11_135 fta (by omega) rfl ?_
          refine x_iload dX11_recorded_91 0 rfl ?_
          rw [hw] at hw9
          rw [hw]
          refine x_callV (rf' := 2) (rl' := 45) [.int (nI wn), .int (nI (topF (WI (curR n dy rc t) (164 + 24 * k) sd 100 wn (a.toInt - 1))))] [] dX11_recorded_93 vX11_144 Y_X4_blowOf g1 (by decide) rfl rfl (Nat.le_of_ble_eq_true rfl) (Nat.le_of_ble_eq_true rfl) (by decide) (by decide) (c_blowOfL L0 hp hw9.1 hw9.2) (fun _ _ e5 => ?_)
          cases e5
          obtain ⟨b1, b2⟩ := WI_BL3 (kn := 100) W hk hsd (by omega) hw1 (show wn ≤ 200000 by omega) (h := (topF (WI (curR n dy rc t) (164 + 24 * k) sd 100 wn (a.toInt - 1)))) (by omega) (bl := BL (curR n dy rc t) (164 + 24 * k) sd 100 (nI wn) (nI (topF (WI (curR n dy rc t) (164 + 24 * k) sd 100 wn (a.toInt - 1))))) rfl
          generalize BL (curR n dy rc t) (164 + 24 * k) sd 100 (nI wn) (nI (topF (WI (curR n dy rc t) (164 + 24 * k) sd 100 wn (a.toInt - 1)))) = bl at b1 b2 ⊢
          refine x_istore (lv2 := [(9, .int bl), (8, .int (nI (topF (WI (curR n dy rc t) (164 + 24 * k) sd 100 wn (a.toInt - 1))))), (7, .ref ta), (0, .ref 3), (1, .int (nI k)), (2, .int (nI sd)), (3, .int a), (4, .int b), (5, .int t), (6, .int wh)]) dX11_recorded_96 (by decide) rfl ?_
          refine x_iload dX11_recorded_98 0 rfl ?_
          refine x_bipush (v := (-2)) dX11_recorded_100 (by decide) ?_
          refine x_icmp_eq (tgt := 123) dX11_recorded_102 (by decide) (fun c_102 => ?_) (fun c_102 => ?_)
          · refine x_iconst (v := (-1)) dX11_recorded_123 (by decide) ?_
            exact x_iret dX11_recorded_124 rfl ⟨by rw [spRe, if_neg (fun q => q.elim nb1 (fun q => q.elim nb2 (fun q => q.elim c_17 (fun q => Int32.not_le.mpr q c_23)))), ck, cs, hw, nI_clamp (show wn < 2 ^ 31 by omega)]; rw [if_neg (fun q => absurd (topF_in q) (by rw [b1 c_102]; exact Bool.false_ne_true))], L0.cu hp, sm1⟩
          · refine x_iload dX11_recorded_105 0 rfl ?_
            refine x_iload_n dX11_recorded_107 6 rfl ?_
            refine x_icmp_lt (tgt := 123) dX11_recorded_108 (by decide) (fun c_108 => ?_) (fun c_108 => ?_)
            · refine x_iconst (v := (-1)) dX11_recorded_123 (by decide) ?_
              exact x_iret dX11_recorded_124 rfl ⟨by rw [spRe, if_neg (fun q => q.elim nb1 (fun q => q.elim nb2 (fun q => q.elim c_17 (fun q => Int32.not_le.mpr q c_23)))), ck, cs, hw, nI_clamp (show wn < 2 ^ 31 by omega)]; rw [if_neg (fun _ => absurd (topF_out (p := WI (curR n dy rc t) (164 + 24 * k) sd 100 wn (a.toInt - 1)) (by omega)) (by rw [b2 c_102]; exact fun q => absurd (of_decide_eq_false q) (by rw [Int32.lt_iff_toInt_lt] at c_108; omega)))], L0.cu hp, sm1⟩
            · refine x_iload dX11_recorded_111 0 rfl ?_
              refine x_iload dX11_recorded_113 7 rfl ?_
              refine x_icmp_gt (tgt := 123) dX11_recorded_115 (by decide) (fun c_115 => ?_) (fun c_115 => ?_)
              · refine x_iconst (v := (-1)) dX11_recorded_123 (by decide) ?_
                exact x_iret dX11_recorded_124 rfl ⟨by rw [spRe, if_neg (fun q => q.elim nb1 (fun q => q.elim nb2 (fun q => q.elim c_17 (fun q => Int32.not_le.mpr q c_23)))), ck, cs, hw, nI_clamp (show wn < 2 ^ 31 by omega)]; rw [if_neg (fun q => absurd (topF_in q) (by rw [b2 c_102]; exact fun q => absurd (of_decide_eq_true q) (by rw [Int32.lt_iff_toInt_lt] at c_115; omega)))], L0.cu hp, sm1⟩
              · refine x_iload dX11_recorded_118 1 rfl ?_
                refine x_goto (tgt := 124) dX11_recorded_120 (by decide) ?_
                exact x_iret dX11_recorded_124 rfl ⟨by rw [spRe, if_neg (fun q => q.elim nb1 (fun q => q.elim nb2 (fun q => q.elim c_17 (fun q => Int32.not_le.mpr q c_23)))), ck, cs, hw, nI_clamp (show wn < 2 ^ 31 by omega)]; rw [if_pos ((topF_lt (WI_dn W hk hsd) (by omega)).mpr (by rw [b2 c_102]; exact decide_eq_true (by rw [Int32.lt_iff_toInt_lt] at c_115; omega))), if_neg c_31], L0.cu hp, sm1⟩
      · refine x_aload_n dX11_recorded_34 1 rfl ?_
        refine x_get (v := .ref 21) dX11_recorded_35 fX11_37 f3 (by decide) rfl ?_
        refine x_aload dX11_recorded_38 0 rfl ?_
        refine x_get (v := .int ((curR n dy rc t) (164 + 24 * k))) dX11_recorded_40 fX11_135 fta (by omega) rfl ?_
        refine x_iload dX11_recorded_43 5 rfl ?_
        refine x_i2l dX11_recorded_45 ?_
        rw [hw]
        refine x_callV (rf' := 4) (rl' := 92) [.int (nI wn), .long b.toInt64] [] dX11_recorded_46 vX11_186 Y_X4_greatestHeight g1 (by decide) rfl rfl (Nat.le_of_ble_eq_true rfl) (Nat.le_of_ble_eq_true rfl) (by decide) (by decide) (c_greatest (kn := 100) (ms := b.toInt64) W hk hsd (by omega) hw1 (by omega) L0) (fun _ _ e4 => ?_)
        cases e4
        rw [Int32.toInt_toInt64]
        refine x_goto (tgt := 70) dX11_recorded_49 (by decide) ?_
        refine x_istore (lv2 := [(8, .int (lcI (topF (WI (curR n dy rc t) (164 + 24 * k) sd 100 wn b.toInt)))), (7, .ref ta), (0, .ref 3), (1, .int (nI k)), (2, .int (nI sd)), (3, .int a), (4, .int b), (5, .int t), (6, .int wh)]) dX11_recorded_70 (by decide) rfl ?_
        refine x_iload dX11_recorded_72 0 rfl ?_
        by_cases hE : (topF (WI (curR n dy rc t) (164 + 24 * k) sd 100 wn b.toInt)) = 0
        · rw [hE]
          refine x_callS (rf' := 0) (rl' := 0) [.int (lcI 0)] [] dX11_recorded_74 vX11_129 Y_X11_isHeight rfl rfl (Nat.le_of_ble_eq_true rfl) (Nat.le_of_ble_eq_true rfl) (by decide) (by decide) c_isHeight (fun _ _ e5 => ?_)
          cases e5
          rw [if_pos (Or.inl (by decide))]
          refine x_if_ne (tgt := 82) dX11_recorded_77 (by decide) (fun c_77 => absurd (by decide) c_77) (fun c_77 => ?_)
          refine x_iconst (v := (-1)) dX11_recorded_80 (by decide) ?_
          exact x_iret dX11_recorded_81 rfl ⟨by rw [spRe, if_neg (fun q => q.elim nb1 (fun q => q.elim nb2 (fun q => q.elim c_17 (fun q => Int32.not_le.mpr q c_23)))), ck, cs, hw, nI_clamp (show wn < 2 ^ 31 by omega)]; rw [if_neg (by omega)], L0.cu hp, sm1⟩
        · rw [lcI_pos (Nat.pos_of_ne_zero hE)]
          refine x_callS (rf' := 0) (rl' := 0) [.int (nI ((topF (WI (curR n dy rc t) (164 + 24 * k) sd 100 wn b.toInt)) - 1))] [] dX11_recorded_74 vX11_129 Y_X11_isHeight rfl rfl (Nat.le_of_ble_eq_true rfl) (Nat.le_of_ble_eq_true rfl) (by decide) (by decide) c_isHeight (fun _ _ e5 => ?_)
          cases e5
          rw [if_neg (fun q => q.elim (nI_pos (by omega)) (fun q => absurd ((nI_ltI (a := 30000) (by decide) (by omega)).mp q) (by omega)))]
          refine x_if_ne (tgt := 82) dX11_recorded_77 (by decide) (fun c_77 => ?_) (fun c_77 => absurd c_77 (by decide))
          refine x_aload_n dX11_recorded_82 2 rfl ?_
          refine x_get (v := .ref 21) dX11_recorded_83 fX11_37 f3 (by decide) rfl ?_
          refine x_aload dX11_recorded_86 1 rfl ?_
          refine x_get (v := .int ((curR n dy rc t) (164 + 24 * k))) dX11_recorded_88 fX11_135 fta (by omega) rfl ?_
          refine x_iload dX11_recorded_91 0 rfl ?_
          rw [hw] at hw9
          rw [hw]
          refine x_callV (rf' := 2) (rl' := 45) [.int (nI wn), .int (nI ((topF (WI (curR n dy rc t) (164 + 24 * k) sd 100 wn b.toInt)) - 1))] [] dX11_recorded_93 vX11_144 Y_X4_blowOf g1 (by decide) rfl rfl (Nat.le_of_ble_eq_true rfl) (Nat.le_of_ble_eq_true rfl) (by decide) (by decide) (c_blowOfL L0 hp hw9.1 hw9.2) (fun _ _ e5 => ?_)
          cases e5
          obtain ⟨b1, b2⟩ := WI_BL3 (kn := 100) W hk hsd (by omega) hw1 (show wn ≤ 200000 by omega) (h := ((topF (WI (curR n dy rc t) (164 + 24 * k) sd 100 wn b.toInt)) - 1)) (by omega) (bl := BL (curR n dy rc t) (164 + 24 * k) sd 100 (nI wn) (nI ((topF (WI (curR n dy rc t) (164 + 24 * k) sd 100 wn b.toInt)) - 1))) rfl
          generalize BL (curR n dy rc t) (164 + 24 * k) sd 100 (nI wn) (nI ((topF (WI (curR n dy rc t) (164 + 24 * k) sd 100 wn b.toInt)) - 1)) = bl at b1 b2 ⊢
          refine x_istore (lv2 := [(9, .int bl), (8, .int (nI ((topF (WI (curR n dy rc t) (164 + 24 * k) sd 100 wn b.toInt)) - 1))), (7, .ref ta), (0, .ref 3), (1, .int (nI k)), (2, .int (nI sd)), (3, .int a), (4, .int b), (5, .int t), (6, .int wh)]) dX11_recorded_96 (by decide) rfl ?_
          refine x_iload dX11_recorded_98 0 rfl ?_
          refine x_bipush (v := (-2)) dX11_recorded_100 (by decide) ?_
          refine x_icmp_eq (tgt := 123) dX11_recorded_102 (by decide) (fun c_102 => ?_) (fun c_102 => ?_)
          · refine x_iconst (v := (-1)) dX11_recorded_123 (by decide) ?_
            exact x_iret dX11_recorded_124 rfl ⟨by rw [spRe, if_neg (fun q => q.elim nb1 (fun q => q.elim nb2 (fun q => q.elim c_17 (fun q => Int32.not_le.mpr q c_23)))), ck, cs, hw, nI_clamp (show wn < 2 ^ 31 by omega)]; rw [if_neg (fun _ => absurd (topF_in (p := WI (curR n dy rc t) (164 + 24 * k) sd 100 wn b.toInt) (j := (topF (WI (curR n dy rc t) (164 + 24 * k) sd 100 wn b.toInt)) - 1) (by omega)) (by rw [b1 c_102]; exact Bool.false_ne_true))], L0.cu hp, sm1⟩
          · refine x_iload dX11_recorded_105 0 rfl ?_
            refine x_iload_n dX11_recorded_107 6 rfl ?_
            refine x_icmp_lt (tgt := 123) dX11_recorded_108 (by decide) (fun c_108 => ?_) (fun c_108 => ?_)
            · refine x_iconst (v := (-1)) dX11_recorded_123 (by decide) ?_
              exact x_iret dX11_recorded_124 rfl ⟨by rw [spRe, if_neg (fun q => q.elim nb1 (fun q => q.elim nb2 (fun q => q.elim c_17 (fun q => Int32.not_le.mpr q c_23)))), ck, cs, hw, nI_clamp (show wn < 2 ^ 31 by omega)]; rw [if_neg (fun q => absurd ((topF_lt (p := WI (curR n dy rc t) (164 + 24 * k) sd 100 wn (a.toInt - 1)) (WI_dn W hk hsd) (j := (topF (WI (curR n dy rc t) (164 + 24 * k) sd 100 wn b.toInt)) - 1) (by omega)).mpr (by rw [b2 c_102]; exact decide_eq_true (by rw [Int32.lt_iff_toInt_lt] at c_108; omega))) (by omega))], L0.cu hp, sm1⟩
            · refine x_iload dX11_recorded_111 0 rfl ?_
              refine x_iload dX11_recorded_113 7 rfl ?_
              refine x_icmp_gt (tgt := 123) dX11_recorded_115 (by decide) (fun c_115 => ?_) (fun c_115 => ?_)
              · refine x_iconst (v := (-1)) dX11_recorded_123 (by decide) ?_
                exact x_iret dX11_recorded_124 rfl ⟨by rw [spRe, if_neg (fun q => q.elim nb1 (fun q => q.elim nb2 (fun q => q.elim c_17 (fun q => Int32.not_le.mpr q c_23)))), ck, cs, hw, nI_clamp (show wn < 2 ^ 31 by omega)]; rw [if_neg (fun _ => absurd (topF_in (p := WI (curR n dy rc t) (164 + 24 * k) sd 100 wn b.toInt) (j := (topF (WI (curR n dy rc t) (164 + 24 * k) sd 100 wn b.toInt)) - 1) (by omega)) (by rw [b2 c_102]; exact fun q => absurd (of_decide_eq_true q) (by rw [Int32.lt_iff_toInt_lt] at c_115; omega)))], L0.cu hp, sm1⟩
              · refine x_iload dX11_recorded_118 1 rfl ?_
                refine x_goto (tgt := 124) dX11_recorded_120 (by decide) ?_
                exact x_iret dX11_recorded_124 rfl ⟨by rw [spRe, if_neg (fun q => q.elim nb1 (fun q => q.elim nb2 (fun q => q.elim c_17 (fun q => Int32.not_le.mpr q c_23)))), ck, cs, hw, nI_clamp (show wn < 2 ^ 31 by omega)]; rw [if_pos (show (topF (WI (curR n dy rc t) (164 + 24 * k) sd 100 wn (a.toInt - 1))) < (topF (WI (curR n dy rc t) (164 + 24 * k) sd 100 wn b.toInt)) from by (have := topF_le_of (p := WI (curR n dy rc t) (164 + 24 * k) sd 100 wn (a.toInt - 1)) (WI_dn W hk hsd) (j := (topF (WI (curR n dy rc t) (164 + 24 * k) sd 100 wn b.toInt)) - 1) (by omega) (by rw [b2 c_102]; exact decide_eq_false (by rw [Int32.lt_iff_toInt_lt] at c_108; omega)); omega)), if_pos c_31, lcI_pos (Nat.pos_of_ne_zero hE)], L0.cu hp, sm1⟩
    · refine x_iconst (v := (-1)) dX11_recorded_26 (by decide) ?_
      exact x_iret dX11_recorded_27 rfl ⟨by rw [spRe, if_pos (Or.inr (Or.inr (Or.inr (Int32.not_le.mp c_23))))], L0.cu hp, sm1⟩

theorem c_recorded {G : GT} {h : List PE} {n td : Nat} {dy : Nat → Int32} {rc : Nat → Nat → Int32} {ct : Nat → Nat × Nat × Nat × Nat} {fk br t : Int32} {th sd : Int32} {a b wh : Int32} (hfa : FaR h n td fk br) (hbk : BkR h n dy rc ct) (hn : n ≤ 20) (hcu : CuR h) (W : WFk (curR n dy rc t) (curC n dy ct t)) : CT G mX11_recorded 5 117 [.ref 3, .int th, .int sd, .int a, .int b, .int t, .int wh] h (fun o => o.1 = some (.int (spRe (curR n dy rc t) (curC n dy ct t) th sd a b wh)) ∧ CuR o.2 ∧ Sm [21, 22, 23, 24] h o.2) := by
  by_cases h1 : bT (curC n dy ct t) th
  · exact c_recordedN1 hfa hbk hn hcu W h1
  · obtain ⟨k, hk, rfl⟩ := ix_of (by have := W.2.2.2.1; omega) h1
    by_cases h2 : bS sd
    · exact c_recordedN2 hfa hbk hn hcu W hk h2
    · obtain ⟨s, hs, rfl⟩ := ix_of (m := 6) (by decide) h2
      exact c_recordedS hfa hbk hn hcu W hk hs

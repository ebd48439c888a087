set_option maxRecDepth 100000 in
set_option maxHeartbeats 4000000 in
theorem l_again {G : GT} {n td : Nat} {dy : Nat → Int32} {rc : Nat → Nat → Int32} {ct : Nat → Nat × Nat × Nat × Nat} {fk br t : Int32} {k sd ta : Nat} {hh : Int32} {fq : Nat → Nat} (W : WFk (curR n dy rc t) (curC n dy ct t)) (hk : k < (curC n dy ct t).2.1) (hsd : sd < 6) : ∀ (m i kn : Nat) (h : List PE), 60 - i = m → i ≤ 60 → kn ≤ 200 → Laid h (curR n dy rc t) (164 + 24 * k) sd (nI kn) → ThingAt h (curR n dy rc t) (164 + 24 * k) fq ta → h[3]? = some (cO 11 [.ref 4, .ref 6, .ref 15, .ref 16, .ref 21, .ref 25, .ref 32, .ref 35, .int (nI n), .int (nI td), .int fk, .int br]) → X (NF G) G mX11_again 5 110 27 [(6, .int (nI i)), (0, .ref 3), (3, .int hh), (5, .ref ta)] [] h (fun o => o.1 = some (.int (nI (i + agF (fun kept => HO (curR n dy rc t) (164 + 24 * k) sd kept ((curR n dy rc t) (164 + 24 * k)) hh ((curR n dy rc t) (164 + 24 * k + 4))) (keP (curR n dy rc t) (164 + 24 * k) sd) (60 - i) (nI kn)))) ∧ CuR o.2 ∧ Sm [21, 22, 23, 24] h o.2) := by
  have hp := pcN_le (sd := sd) W (W.2.2.2.2.2.2.2.2.2.1 k hk) hsd
  obtain ⟨ke, hke, eke⟩ := keP_nat W hk hsd
  intro m
  induction m using Nat.strongRecOn with
  | _ m ih =>
    intro i kn h hm hi hkn L0 hT f3
    obtain ⟨frg, pug, svg, g21, -⟩ := id L0
    have hta := hT.1
    refine x_iload dX11_again_27 0 rfl ?_
    refine x_bipush (v := 60) dX11_again_29 (by decide) ?_
    refine x_icmp_geN (tgt := 60) (a := i) (b := 60) (by omega) (by omega) dX11_again_31 (by decide) (fun c_31 => ?_) (fun c_31 => ?_)
    · refine x_iload dX11_again_60 0 rfl ?_
      exact x_iret dX11_again_62 rfl ⟨by rw [show 60 - i = 0 by omega]; rfl, L0.cu hp, Sm.rf⟩
    · refine x_aload_n dX11_again_34 1 rfl ?_
      refine x_get (v := .ref 21) dX11_again_35 fX11_37 f3 (by decide) rfl ?_
      refine x_aload dX11_again_38 3 rfl ?_
      refine x_iload_n dX11_again_40 2 rfl ?_
      refine x_callV (rf' := 3) (rl' := 67) [.ref ta, .int hh] [] dX11_again_41 vX11_148 Y_X4_holds g21 (by decide) rfl rfl (Nat.le_of_ble_eq_true rfl) (Nat.le_of_ble_eq_true rfl) (by decide) (by decide) (c_holdsL L0 hT W hk hsd hkn) (fun _ _ e1 => ?_)
      cases e1
      by_cases hO : HO (curR n dy rc t) (164 + 24 * k) sd (nI kn) ((curR n dy rc t) (164 + 24 * k)) hh ((curR n dy rc t) (164 + 24 * k + 4)) = true
      · rw [if_pos hO]
        refine x_if_eq (tgt := 60) dX11_again_44 (by decide) (fun c_44 => absurd c_44 (by decide)) (fun c_44 => ?_)
        refine x_iincN (lv2 := [(6, .int (nI (i + 1))), (0, .ref 3), (3, .int hh), (5, .ref ta)]) dX11_again_47 0 rfl (by decide) rfl ?_
        refine x_aload_n dX11_again_50 1 rfl ?_
        refine x_get (v := .ref 21) dX11_again_51 fX11_37 f3 (by decide) rfl ?_
        refine x_callV (rf' := 1) (rl' := 22) [] [] dX11_again_54 vX11_152 Y_X4_wearByBlow g21 (by decide) rfl rfl (Nat.le_of_ble_eq_true rfl) (Nat.le_of_ble_eq_true rfl) (by decide) (by decide) (c_wearByBlowL L0 hp) (fun r h1 e1 => ?_)
        obtain ⟨e0, L1, sm1⟩ := e1
        cases e0
        rw [eke, (wear_nat hkn hke).1] at L1
        have hT1 := hT.kept (fun j c hj hc => sm1.at hc (by simp; omega))
        have f31 := sm1.at f3 (by decide)
        refine x_goto (tgt := 27) dX11_again_57 (by decide) ?_
        refine x_perm [0, 1, 2, 3] rfl ?_
        refine (ih (60 - (i + 1)) (by omega) (i + 1) (kn * ke / 100) h1 rfl (by omega) (wear_nat hkn hke).2 L1 hT1 f31).weaken (fun o ho => ⟨?_, ho.2.1, sm1.tr ho.2.2⟩)
        rw [ho.1, show 60 - i = (60 - (i + 1)) + 1 by omega, agF, if_pos hO, eke, (wear_nat hkn hke).1]
        congr 3
        omega
      · rw [if_neg hO]
        refine x_if_eq (tgt := 60) dX11_again_44 (by decide) (fun c_44 => ?_) (fun c_44 => absurd (by decide) c_44)
        refine x_iload dX11_again_60 0 rfl ?_
        exact x_iret dX11_again_62 rfl ⟨by rw [show 60 - i = (60 - (i + 1)) + 1 by omega, agF, if_neg hO]; rfl, L0.cu hp, Sm.rf⟩

set_option maxRecDepth 100000 in
set_option maxHeartbeats 4000000 in
theorem c_againN1 {G : GT} {h : List PE} {n td : Nat} {dy : Nat → Int32} {rc : Nat → Nat → Int32} {ct : Nat → Nat × Nat × Nat × Nat} {fk br t : Int32} {th sd : Int32} {hh : Int32} (hfa : FaR h n td fk br) (hbk : BkR h n dy rc ct) (hn : n ≤ 20) (hcu : CuR h) (W : WFk (curR n dy rc t) (curC n dy ct t)) (hs : bT (curC n dy ct t) th) : CT G mX11_again 5 110 [.ref 3, .int th, .int sd, .int hh, .int t] h (fun o => o.1 = some (.int (spAg (curR n dy rc t) (curC n dy ct t) th sd hh)) ∧ CuR o.2 ∧ Sm [21, 22, 23, 24] h o.2) := by
  have f3 : h[3]? = some (cO 11 [.ref 4, .ref 6, .ref 15, .ref 16, .ref 21, .ref 25, .ref 32, .ref 35, .int (nI n), .int (nI td), .int fk, .int br]) := hfa
  show X (NF G) G mX11_again 5 110 0 [(0, .ref 3), (1, .int th), (2, .int sd), (3, .int hh), (4, .int t)] [] h _
  refine x_aload_n dX11_again_0 0 rfl ?_
  refine x_iload_n dX11_again_1 1 rfl ?_
  refine x_iload_n dX11_again_2 2 rfl ?_
  refine x_iload dX11_again_3 4 rfl ?_
  refine x_callV (rf' := 4) (rl' := 86) [.int th, .int sd, .int t] [] dX11_again_5 vX11_125 Y_X11_putOnPad f3 (by decide) rfl rfl (Nat.le_of_ble_eq_true rfl) (Nat.le_of_ble_eq_true rfl) (by decide) (by decide) (c_putOnPadN1 hfa hbk hn hs) (fun _ _ e1 => ?_)
  cases e1
  refine x_astoreN (lv2 := [(5, .null), (0, .ref 3), (1, .int th), (2, .int sd), (3, .int hh), (4, .int t)]) dX11_again_8 (by decide) rfl ?_
  refine x_aloadN dX11_again_10 0 rfl ?_
  refine x_ifnullN (tgt := 22) dX11_again_12 (by decide) ?_
  refine x_iconst (v := (-1)) dX11_again_22 (by decide) ?_
  exact x_iret dX11_again_23 rfl ⟨by rw [spAg, if_pos (Or.inl hs)], hcu, Sm.rf⟩

set_option maxRecDepth 100000 in
set_option maxHeartbeats 4000000 in
theorem c_againN2 {G : GT} {h : List PE} {n td : Nat} {dy : Nat → Int32} {rc : Nat → Nat → Int32} {ct : Nat → Nat × Nat × Nat × Nat} {fk br t : Int32} {sd : Int32} {k : Nat} {hh : Int32} (hfa : FaR h n td fk br) (hbk : BkR h n dy rc ct) (hn : n ≤ 20) (hcu : CuR h) (W : WFk (curR n dy rc t) (curC n dy ct t)) (hk : k < (curC n dy ct t).2.1) (hs : bS sd) : CT G mX11_again 5 110 [.ref 3, .int (nI k), .int sd, .int hh, .int t] h (fun o => o.1 = some (.int (spAg (curR n dy rc t) (curC n dy ct t) (nI k) sd hh)) ∧ CuR o.2 ∧ Sm [21, 22, 23, 24] h o.2) := by
  have f3 : h[3]? = some (cO 11 [.ref 4, .ref 6, .ref 15, .ref 16, .ref 21, .ref 25, .ref 32, .ref 35, .int (nI n), .int (nI td), .int fk, .int br]) := hfa
  show X (NF G) G mX11_again 5 110 0 [(0, .ref 3), (1, .int (nI k)), (2, .int sd), (3, .int hh), (4, .int t)] [] h _
  refine x_aload_n dX11_again_0 0 rfl ?_
  refine x_iload_n dX11_again_1 1 rfl ?_
  refine x_iload_n dX11_again_2 2 rfl ?_
  refine x_iload dX11_again_3 4 rfl ?_
  refine x_callV (rf' := 4) (rl' := 86) [.int (nI k), .int sd, .int t] [] dX11_again_5 vX11_125 Y_X11_putOnPad f3 (by decide) rfl rfl (Nat.le_of_ble_eq_true rfl) (Nat.le_of_ble_eq_true rfl) (by decide) (by decide) (c_putOnPadN2 hfa hbk hn W hk hs) (fun _ _ e1 => ?_)
  cases e1
  refine x_astoreN (lv2 := [(5, .null), (0, .ref 3), (1, .int (nI k)), (2, .int sd), (3, .int hh), (4, .int t)]) dX11_again_8 (by decide) rfl ?_
  refine x_aloadN dX11_again_10 0 rfl ?_
  refine x_ifnullN (tgt := 22) dX11_again_12 (by decide) ?_
  refine x_iconst (v := (-1)) dX11_again_22 (by decide) ?_
  exact x_iret dX11_again_23 rfl ⟨by rw [spAg, if_pos (Or.inr (Or.inl hs))], hcu, Sm.rf⟩

set_option maxRecDepth 100000 in
set_option maxHeartbeats 4000000 in
theorem c_againS {G : GT} {h : List PE} {n td : Nat} {dy : Nat → Int32} {rc : Nat → Nat → Int32} {ct : Nat → Nat × Nat × Nat × Nat} {fk br t : Int32} {k sd : Nat} {hh : Int32} (hfa : FaR h n td fk br) (hbk : BkR h n dy rc ct) (hn : n ≤ 20) (hcu : CuR h) (W : WFk (curR n dy rc t) (curC n dy ct t)) (hk : k < (curC n dy ct t).2.1) (hsd : sd < 6) : CT G mX11_again 5 110 [.ref 3, .int (nI k), .int (nI sd), .int hh, .int t] h (fun o => o.1 = some (.int (spAg (curR n dy rc t) (curC n dy ct t) (nI k) (nI sd) hh)) ∧ CuR o.2 ∧ Sm [21, 22, 23, 24] h o.2) := by
  have f3 : h[3]? = some (cO 11 [.ref 4, .ref 6, .ref 15, .ref 16, .ref 21, .ref 25, .ref 32, .ref 35, .int (nI n), .int (nI td), .int fk, .int br]) := hfa
  have w4 := W.2.2.2.1
  have hp := pcN_le (sd := sd) W (W.2.2.2.2.2.2.2.2.2.1 k hk) hsd
  have ck : tO (nI k) = 164 + 24 * k := by show 164 + 24 * (nI k).toNatClampNeg = _; rw [nI_clamp (by omega)]
  have cs : (nI sd).toNatClampNeg = sd := nI_clamp (by omega)
  obtain ⟨⟨wn, hw, hw1, hw2⟩, -⟩ := W.2.2.2.2.2.2.2.2.2.1 k hk
  have hw9 := nI_one hw1 (show wn < 2 ^ 31 by omega)
  rw [← hw] at hw9
  have nb1 : ¬ bT (curC n dy ct t) (nI k) := fun q => q.elim (nI_pos (by omega)) (fun q => absurd ((nI_leI (by omega) (by omega)).mp q) (by omega))
  have nb2 : ¬ bS (nI sd) := fun q => q.elim (nI_pos (by omega)) (fun q => absurd ((nI_leI (a := 6) (by decide) (by omega)).mp q) (by omega))
  show X (NF G) G mX11_again 5 110 0 [(0, .ref 3), (1, .int (nI k)), (2, .int (nI sd)), (3, .int hh), (4, .int t)] [] h _
  refine x_aload_n dX11_again_0 0 rfl ?_
  refine x_iload_n dX11_again_1 1 rfl ?_
  refine x_iload_n dX11_again_2 2 rfl ?_
  refine x_iload dX11_again_3 4 rfl ?_
  refine x_callV (rf' := 4) (rl' := 86) [.int (nI k), .int (nI sd), .int t] [] dX11_again_5 vX11_125 Y_X11_putOnPad f3 (by decide) rfl rfl (Nat.le_of_ble_eq_true rfl) (Nat.le_of_ble_eq_true rfl) (by decide) (by decide) (c_putOnPadS hfa hbk hn hcu W hk hsd) (fun r h1 e1 => ?_)
  obtain ⟨ta, e0, L0, sm1, fq, hT⟩ := e1
  cases e0
  obtain ⟨hta, s1, s2, s3, s4, z1, z2, z3, z4, -, -, -, -, fta, -⟩ := id hT
  have f3 := sm1.at f3 (by decide)
  obtain ⟨frg1, pug1, svg1, g1, -⟩ := id L0
  refine x_astore (lv2 := [(5, .ref ta), (0, .ref 3), (1, .int (nI k)), (2, .int (nI sd)), (3, .int hh), (4, .int t)]) dX11_again_8 (by decide) rfl ?_
  refine x_aload dX11_again_10 0 rfl ?_
  refine x_ifnull dX11_again_12 ?_
  refine x_iload_n dX11_again_15 4 rfl ?_
  refine x_callS (rf' := 0) (rl' := 0) [.int hh] [] dX11_again_16 vX11_129 Y_X11_isHeight rfl rfl (Nat.le_of_ble_eq_true rfl) (Nat.le_of_ble_eq_true rfl) (by decide) (by decide) c_isHeight (fun _ _ e2 => ?_)
  cases e2
  by_cases hH : bH hh
  · rw [if_pos hH]
    refine x_if_ne (tgt := 24) dX11_again_19 (by decide) (fun c_19 => absurd (by decide) c_19) (fun c_19 => ?_)
    refine x_iconst (v := (-1)) dX11_again_22 (by decide) ?_
    exact x_iret dX11_again_23 rfl ⟨by rw [spAg, if_pos (Or.inr (Or.inr hH))], L0.cu hp, sm1⟩
  · rw [if_neg hH]
    refine x_if_ne (tgt := 24) dX11_again_19 (by decide) (fun c_19 => ?_) (fun c_19 => absurd c_19 (by decide))
    refine x_iconst (v := 0) dX11_again_24 (by decide) ?_
    refine x_istore (lv2 := [(6, .int 0), (5, .ref ta), (0, .ref 3), (1, .int (nI k)), (2, .int (nI sd)), (3, .int hh), (4, .int t)]) dX11_again_25 (by decide) rfl ?_
    refine x_perm [0, 2, 5, 1] rfl ?_
    refine (l_again W hk hsd 60 0 100 h1 rfl (by omega) (by omega) L0 hT f3).weaken (fun o ho => ⟨?_, ho.2.1, sm1.tr ho.2.2⟩)
    rw [ho.1, spAg, if_neg (fun q => q.elim nb1 (fun q => q.elim nb2 hH)), ck, cs, Nat.zero_add]
    rfl

theorem c_again {G : GT} {h : List PE} {n td : Nat} {dy : Nat → Int32} {rc : Nat → Nat → Int32} {ct : Nat → Nat × Nat × Nat × Nat} {fk br t : Int32} {th sd : Int32} {hh : Int32} (hfa : FaR h n td fk br) (hbk : BkR h n dy rc ct) (hn : n ≤ 20) (hcu : CuR h) (W : WFk (curR n dy rc t) (curC n dy ct t)) : CT G mX11_again 5 110 [.ref 3, .int th, .int sd, .int hh, .int t] h (fun o => o.1 = some (.int (spAg (curR n dy rc t) (curC n dy ct t) th sd hh)) ∧ CuR o.2 ∧ Sm [21, 22, 23, 24] h o.2) := by
  by_cases h1 : bT (curC n dy ct t) th
  · exact c_againN1 hfa hbk hn hcu W h1
  · obtain ⟨k, hk, rfl⟩ := ix_of (by have := W.2.2.2.1; omega) h1
    by_cases h2 : bS sd
    · exact c_againN2 hfa hbk hn hcu W hk h2
    · obtain ⟨s, hs, rfl⟩ := ix_of (m := 6) (by decide) h2
      exact c_againS hfa hbk hn hcu W hk hs

set_option maxRecDepth 100000 in
set_option maxHeartbeats 4000000 in
theorem c_layPadL {G : GT} {h : List PE} {rec : Nat → Int32} {c : Nat × Nat × Nat × Nat} {k sd ab : Nat} {day : Int32} (hcu : CuR h) (hB : BookAt h rec c.1 c.2.1 c.2.2.1 c.2.2.2 ab day) (W : WFk rec c) (hk : k < c.2.1) (hsd : sd < 6) (tq : Nat) (fq : Nat → Nat) (hF : ∀ j, j < c.1 → ∀ np, rec (4 + 20 * j) = nI np → np ≤ 8 → FoamAt h rec (4 + 20 * j) np (fq j)) (hT : ThingAt h rec (164 + 24 * k) fq tq) : CT G mX4_layPad 3 64 [.ref 21, .ref tq, .int (nI sd)] h (fun o => o.1 = none ∧ Laid o.2 rec (164 + 24 * k) sd 100 ∧ Sm [21, 22, 23, 24] h o.2) := by
  obtain ⟨thick, area, keeps, kept, cc, fr, pu, sv, f21, f22, f23, f24, hc⟩ := hcu
  obtain ⟨hta, s1, s2, s3, s4, z1, z2, z3, z4, a1, a2, a3, a4, r0, r1, r2, r3, r4, r5, r6⟩ := hT
  obtain ⟨p1, p2, p3, p4⟩ := r6 sd hsd
  have WT := W.2.2.2.2.2.2.2.2.2.1 k hk
  rcases pd_wf WT W.2.1 hsd with ⟨e, e0⟩ | ⟨kf, e, hkf, e0⟩
  · refine (c_layPadN f21 f22 f23 f24 r0 r2 r3 r4 hta a2 a3 a4 hsd (p1 e0)).weaken (fun o ho => ?_)
    obtain ⟨o1, fr2, pu2, sv2, o2, o3, o4, o5, o6⟩ := ho
    have hn : pcN rec (164 + 24 * k) sd = 0 := by unfold pcN; rw [e]
    have hke : keP rec (164 + 24 * k) sd = 0 := by unfold keP; rw [e]
    rw [p3, p4] at o2
    refine ⟨o1, ⟨fr2, pu2, sv2, ?_, o3, o4, o5, fun x hx => absurd hx (by omega), fun x hx => absurd hx (by omega), fun x hx => absurd hx (by omega)⟩, o6⟩
    rw [hn, hke]
    exact o2
  · obtain ⟨np, P, U, ke, pr, w⟩ := W.2.2.2.2.2.2.2.2.1 kf hkf
    have w := w.canon
    obtain ⟨hfa, p, q, g1, g2, b1, b2, b3, b4, b5, b6⟩ := hF kf hkf _ w.1 w.2.2.1
    refine (c_layPad f21 f22 f23 f24 r0 r2 r3 r4 b3 b4 b5 hfa b1 b2 w b6 hta a2 a3 a4 hsd (p2 kf (by have := W.2.1; omega) e0)).weaken (fun o ho => ?_)
    obtain ⟨o1, fr2, pu2, sv2, o2, o3, o4, o5, o6, o7, o8, o9⟩ := ho
    have hn : pcN rec (164 + 24 * k) sd = cnR rec (4 + 20 * kf) := by unfold pcN; rw [e]
    have hke : keP rec (164 + 24 * k) sd = rec (4 + 20 * kf + 1) := by unfold keP; rw [e]
    have hfr : frP rec (164 + 24 * k) sd = frR rec (4 + 20 * kf) := by unfold frP; rw [e]
    rw [p3, p4] at o2
    refine ⟨o1, laid_of (fr := fr2) (pu := pu2) (sv := sv2) ?_ o3 o4 o5 ?_ ?_ ?_, o6⟩
    · rw [hn, hke]
      exact o2
    · rw [hn, hfr]
      exact fr_canon w o7
    · rw [hn]; exact o8
    · rw [hn]; exact o9

set_option maxRecDepth 100000 in
set_option maxHeartbeats 4000000 in
theorem c_putOnPadS {G : GT} {h : List PE} {n td : Nat} {dy : Nat → Int32} {rc : Nat → Nat → Int32} {ct : Nat → Nat × Nat × Nat × Nat} {fk br t : Int32} {k sd : Nat} (hfa : FaR h n td fk br) (hbk : BkR h n dy rc ct) (hn : n ≤ 20) (hcu : CuR h) (W : WFk (curR n dy rc t) (curC n dy ct t)) (hk : k < (curC n dy ct t).2.1) (hsd : sd < 6) : CT G mX11_putOnPad 4 86 [.ref 3, .int (nI k), .int (nI sd), .int t] h (fun o => ∃ ta : Nat, o.1 = some (.ref ta) ∧ Laid o.2 (curR n dy rc t) (164 + 24 * k) sd 100 ∧ Sm [21, 22, 23, 24] h o.2 ∧ ∃ fq, ThingAt o.2 (curR n dy rc t) (164 + 24 * k) fq ta) := by
  obtain ⟨zb, bq, ab, day, f15, hd, hab, hB⟩ := hbk.cur t
  obtain ⟨hb0, b1, b2, b3, b4, fq, tq, bq2, dq, zf, zt, zb2, zd, ln, q1, q2, q3, q4, q5, r0, r1, r2, r3, r4, k1, k2, k3, k4⟩ := id hB
  have f3 : h[3]? = some (cO 11 [.ref 4, .ref 6, .ref 15, .ref 16, .ref 21, .ref 25, .ref 32, .ref 35, .int (nI n), .int (nI td), .int fk, .int br]) := hfa
  obtain ⟨thick, area, keeps, kept, cc, fr, pu, sv, f21, f22, f23, f24, hc⟩ := id hcu
  show X (NF G) G mX11_putOnPad 4 86 0 [(0, .ref 3), (1, .int (nI k)), (2, .int (nI sd)), (3, .int t)] [] h _
  refine x_aload_n dX11_putOnPad_0 0 rfl ?_
  refine x_iload_n dX11_putOnPad_1 3 rfl ?_
  refine x_callV (rf' := 1) (rl' := 21) [.int t] [] dX11_putOnPad_2 vX11_95 Y_X11_asOf f3 (by decide) rfl rfl (Nat.le_of_ble_eq_true rfl) (Nat.le_of_ble_eq_true rfl) (by decide) (by decide) (c_asOf hfa f15 hn hd) (fun _ _ e1 => ?_)
  cases e1
  rw [hab]
  refine x_iload_n dX11_putOnPad_5 1 rfl ?_
  refine x_callV (rf' := 0) (rl' := 0) [.int (nI k)] [] dX11_putOnPad_6 vX11_155 Y_X0_thingAt r0 (by omega) rfl rfl (Nat.le_of_ble_eq_true rfl) (Nat.le_of_ble_eq_true rfl) (by decide) (by decide) (c_thingAtS r0 r2 (by omega) (by omega) W.2.2.2.1 hk (k2 k hk).1) (fun _ _ e1 => ?_)
  cases e1
  refine x_astore (lv2 := [(4, .ref (tq k)), (0, .ref 3), (1, .int (nI k)), (2, .int (nI sd)), (3, .int t)]) dX11_putOnPad_9 (by decide) rfl ?_
  refine x_aload dX11_putOnPad_11 0 rfl ?_
  refine x_ifnull dX11_putOnPad_13 ?_
  refine x_iload_n dX11_putOnPad_16 3 rfl ?_
  refine x_callS (rf' := 0) (rl' := 0) [.int (nI sd)] [] dX11_putOnPad_17 vX11_213 Y_X11_isSide rfl rfl (Nat.le_of_ble_eq_true rfl) (Nat.le_of_ble_eq_true rfl) (by decide) (by decide) c_isSide (fun _ _ e1 => ?_)
  cases e1
  rw [if_neg (show ¬ (nI sd < 0 ∨ (6 : Int32) ≤ nI sd) from fun q => q.elim (nI_pos (by omega)) (fun q => absurd ((nI_leI (a := 6) (by decide) (by omega)).mp q) (by omega)))]
  refine x_if_ne (tgt := 25) dX11_putOnPad_20 (by decide) (fun c_20 => ?_) (fun c_20 => absurd c_20 (by decide))
  refine x_aload_n dX11_putOnPad_25 1 rfl ?_
  refine x_get (v := .ref 21) dX11_putOnPad_26 fX11_37 f3 (by decide) rfl ?_
  refine x_aload dX11_putOnPad_29 0 rfl ?_
  refine x_iload_n dX11_putOnPad_31 3 rfl ?_
  refine x_callV (rf' := 3) (rl' := 64) [.ref (tq k), .int (nI sd)] [] dX11_putOnPad_32 vX11_252 Y_X4_layPad f21 (by decide) rfl rfl (Nat.le_of_ble_eq_true rfl) (Nat.le_of_ble_eq_true rfl) (by decide) (by decide) (c_layPadL hcu hB W hk hsd (tq k) fq (fun j hj => (k1 j hj).2) (k2 k hk).2) (fun r h1 e1 => ?_)
  obtain ⟨e0, e2, e3⟩ := e1
  cases e0
  refine x_aload dX11_putOnPad_35 0 rfl ?_
  exact x_aret (r := (some ((tq k)))) dX11_putOnPad_37 rfl (Or.inl ⟨_, rfl⟩) ⟨tq k, rfl, e2, e3, (k2 k hk).2.kept (fun j c hj hc => e3.at hc (by simp; omega)) |> fun z => ⟨fq, z⟩⟩

set_option maxRecDepth 100000 in
set_option maxHeartbeats 4000000 in
theorem c_putOnPadN1 {G : GT} {h : List PE} {n td : Nat} {dy : Nat → Int32} {rc : Nat → Nat → Int32} {ct : Nat → Nat × Nat × Nat × Nat} {fk br t : Int32} {th sd : Int32} (hfa : FaR h n td fk br) (hbk : BkR h n dy rc ct) (hn : n ≤ 20) (hs : th < 0 ∨ nI (curC n dy ct t).2.1 ≤ th) : CT G mX11_putOnPad 4 86 [.ref 3, .int th, .int sd, .int t] h (fun o => o = (some .null, h)) := by
  obtain ⟨zb, bq, ab, day, f15, hd, hab, hB⟩ := hbk.cur t
  obtain ⟨hb0, b1, b2, b3, b4, fq, tq, bq2, dq, zf, zt, zb2, zd, ln, q1, q2, q3, q4, q5, r0, r1, r2, r3, r4, k1, k2, k3, k4⟩ := id hB
  have f3 : h[3]? = some (cO 11 [.ref 4, .ref 6, .ref 15, .ref 16, .ref 21, .ref 25, .ref 32, .ref 35, .int (nI n), .int (nI td), .int fk, .int br]) := hfa
  show X (NF G) G mX11_putOnPad 4 86 0 [(0, .ref 3), (1, .int th), (2, .int sd), (3, .int t)] [] h _
  refine x_aload_n dX11_putOnPad_0 0 rfl ?_
  refine x_iload_n dX11_putOnPad_1 3 rfl ?_
  refine x_callV (rf' := 1) (rl' := 21) [.int t] [] dX11_putOnPad_2 vX11_95 Y_X11_asOf f3 (by decide) rfl rfl (Nat.le_of_ble_eq_true rfl) (Nat.le_of_ble_eq_true rfl) (by decide) (by decide) (c_asOf hfa f15 hn hd) (fun _ _ e1 => ?_)
  cases e1
  rw [hab]
  refine x_iload_n dX11_putOnPad_5 1 rfl ?_
  refine x_callV (rf' := 0) (rl' := 0) [.int th] [] dX11_putOnPad_6 vX11_155 Y_X0_thingAt r0 (by omega) rfl rfl (Nat.le_of_ble_eq_true rfl) (Nat.le_of_ble_eq_true rfl) (by decide) (by decide) (c_thingAtN r0 (by omega) hs) (fun _ _ e1 => ?_)
  cases e1
  refine x_astoreN (lv2 := [(4, .null), (0, .ref 3), (1, .int th), (2, .int sd), (3, .int t)]) dX11_putOnPad_9 (by decide) rfl ?_
  refine x_aloadN dX11_putOnPad_11 0 rfl ?_
  refine x_ifnullN (tgt := 23) dX11_putOnPad_13 (by decide) ?_
  refine x_null dX11_putOnPad_23 ?_
  exact x_aret (r := none) dX11_putOnPad_24 rfl (Or.inl ⟨_, rfl⟩) rfl

set_option maxRecDepth 100000 in
set_option maxHeartbeats 4000000 in
theorem c_putOnPadN2 {G : GT} {h : List PE} {n td : Nat} {dy : Nat → Int32} {rc : Nat → Nat → Int32} {ct : Nat → Nat × Nat × Nat × Nat} {fk br t : Int32} {sd : Int32} {k : Nat} (hfa : FaR h n td fk br) (hbk : BkR h n dy rc ct) (hn : n ≤ 20) (W : WFk (curR n dy rc t) (curC n dy ct t)) (hk : k < (curC n dy ct t).2.1) (hs : sd < 0 ∨ 6 ≤ sd) : CT G mX11_putOnPad 4 86 [.ref 3, .int (nI k), .int sd, .int t] h (fun o => o = (some .null, h)) := by
  obtain ⟨zb, bq, ab, day, f15, hd, hab, hB⟩ := hbk.cur t
  obtain ⟨hb0, b1, b2, b3, b4, fq, tq, bq2, dq, zf, zt, zb2, zd, ln, q1, q2, q3, q4, q5, r0, r1, r2, r3, r4, k1, k2, k3, k4⟩ := id hB
  have f3 : h[3]? = some (cO 11 [.ref 4, .ref 6, .ref 15, .ref 16, .ref 21, .ref 25, .ref 32, .ref 35, .int (nI n), .int (nI td), .int fk, .int br]) := hfa
  show X (NF G) G mX11_putOnPad 4 86 0 [(0, .ref 3), (1, .int (nI k)), (2, .int sd), (3, .int t)] [] h _
  refine x_aload_n dX11_putOnPad_0 0 rfl ?_
  refine x_iload_n dX11_putOnPad_1 3 rfl ?_
  refine x_callV (rf' := 1) (rl' := 21) [.int t] [] dX11_putOnPad_2 vX11_95 Y_X11_asOf f3 (by decide) rfl rfl (Nat.le_of_ble_eq_true rfl) (Nat.le_of_ble_eq_true rfl) (by decide) (by decide) (c_asOf hfa f15 hn hd) (fun _ _ e1 => ?_)
  cases e1
  rw [hab]
  refine x_iload_n dX11_putOnPad_5 1 rfl ?_
  refine x_callV (rf' := 0) (rl' := 0) [.int (nI k)] [] dX11_putOnPad_6 vX11_155 Y_X0_thingAt r0 (by omega) rfl rfl (Nat.le_of_ble_eq_true rfl) (Nat.le_of_ble_eq_true rfl) (by decide) (by decide) (c_thingAtS r0 r2 (by omega) (by omega) W.2.2.2.1 hk (k2 k hk).1) (fun _ _ e1 => ?_)
  cases e1
  refine x_astore (lv2 := [(4, .ref (tq k)), (0, .ref 3), (1, .int (nI k)), (2, .int sd), (3, .int t)]) dX11_putOnPad_9 (by decide) rfl ?_
  refine x_aload dX11_putOnPad_11 0 rfl ?_
  refine x_ifnull dX11_putOnPad_13 ?_
  refine x_iload_n dX11_putOnPad_16 3 rfl ?_
  refine x_callS (rf' := 0) (rl' := 0) [.int sd] [] dX11_putOnPad_17 vX11_213 Y_X11_isSide rfl rfl (Nat.le_of_ble_eq_true rfl) (Nat.le_of_ble_eq_true rfl) (by decide) (by decide) c_isSide (fun _ _ e1 => ?_)
  cases e1
  rw [if_pos hs]
  refine x_if_ne (tgt := 25) dX11_putOnPad_20 (by decide) (fun c_20 => absurd (by decide) c_20) (fun c_20 => ?_)
  refine x_null dX11_putOnPad_23 ?_
  exact x_aret (r := none) dX11_putOnPad_24 rfl (Or.inl ⟨_, rfl⟩) rfl

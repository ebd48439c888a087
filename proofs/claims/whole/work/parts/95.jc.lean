/-! ===== the law's call of its own journey ===== -/
theorem CL.kept9 {h h1 : List PE} {s : ST} (x : CL h s) (e : ∀ j, j < h.length → j ≠ 50 → h1[j]? = h[j]?) (hl1 : h.length ≤ h1.length) : CL h1 s := by
  obtain ⟨hF, hT, hR, hB, hC, hP, hX, hK, hl⟩ := x
  have e9 : ∀ j, j < 36 → h1[j]? = h[j]? := fun j hj => e j (by omega) (by omega)
  refine ⟨hF.kept (e9 3 (by decide)), hT.kept (fun j hj => e9 j ?_), hR.kept (fun j a b => e9 j (by omega)), hB.kept (e9 15 (by decide)) (fun j c hj hc => (e j (List.getElem?_eq_some_iff.mp hc).1 (by omega)).trans hc), hC.kept (fun j hj => e9 j ?_), hP.kept (fun j hj => e9 j ?_), hX.kept (fun j hj => e9 j ?_), hK.kept (e9 35 (by decide)), by omega⟩
  · revert j; decide
  · revert j; decide
  · revert j; decide
  · revert j; decide
set_option maxRecDepth 100000 in
set_option maxHeartbeats 4000000 in
theorem k_journeyS {G : GT} {h : List PE} {s : ST} {th t : Int32} (hc : CL h s) (ws : WS s) (z : ¬ bT (sC s t) th ∧ jgOk (s_tn s) (s_tv s)) : CT G mX11_journey 6 114 [.ref 3, .int th, .int t] h (fun o => o.1 = some (.long (spJr (sR s t) (sC s t) th (s_tn s) (s_tv s))) ∧ CL o.2 (s_setTn s 0) ∧ FrC h o.2) := by
  obtain ⟨hF, hT, hR, hB, hC, hP, hX, hK, hl⟩ := id hc
  have w4 := (ws.cur t).2.2.2.1
  obtain ⟨k, hk, rfl⟩ := ix_of (by omega) z.1
  refine (c_journeyS hF hB ws.1 (ws.cur t) hT ws.2.2.1 ws.2.2.2.1 hC hk z.2).weaken (fun o ho => ?_)
  obtain ⟨o1, nT, nC, sm⟩ := ho
  have kl : ∀ j, j ∈ [4, 21, 22, 23, 24] → 0 < j ∧ j < 36 ∧ ¬ (6 ≤ j ∧ j ≤ 20) := by decide
  have kp : ∀ j, j ∈ [25, 26, 27, 28, 29, 30, 31] → j ∉ [4, 21, 22, 23, 24] := by decide
  have kx : ∀ j, j ∈ [32, 33, 34] → j ∉ [4, 21, 22, 23, 24] := by decide
  refine ⟨?_, ⟨hF.kept (sm.2.2 3 (by decide)), nT, hR.kept (fun j a b => sm.2.2 j (fun q => by have := kl j q; omega)), hB.kept (sm.2.2 15 (by decide)) (fun j c hj hc => sm.at hc (fun q => by have := kl j q; omega)), nC, hP.kept (fun j hj => sm.2.2 j (kp j hj)), hX.kept (fun j hj => sm.2.2 j (kx j hj)), hK.kept (sm.2.2 35 (by decide)), by have := sm.1; omega⟩, FrC.sm sm (fun j hj => ⟨(kl j hj).1, (kl j hj).2.1⟩)⟩
  rw [o1, spJr, if_neg (fun q => q.elim z.1 (fun q => q z.2)), nI_clamp (by omega)]
theorem k_journeyT {G : GT} {h : List PE} {s : ST} {th t : Int32} (hE : GE G) (hc : CL h s) (ws : WS s) (z : ¬ (¬ bT (sC s t) th ∧ jgOk (s_tn s) (s_tv s))) : X (PF [] (TF G)) G mX11_journey 6 114 0 (lv_args 0 [.ref 3, .int th, .int t]) [] h (fun o => o = h ++ [cE]) := by
  obtain ⟨hF, hT, hR, hB, hC, hP, hX, hK, hl⟩ := id hc
  show X (PF [] (TF G)) G mX11_journey 6 114 0 [(0, .ref 3), (1, .int th), (2, .int t)] [] h _
  by_cases b : bT (sC s t) th
  · exact c_journeyB1 hF hB ws.1 (ws.cur t) hT ws.2.2.1 ws.2.2.2.1 b (x_throw hE)
  · have w4 := (ws.cur t).2.2.2.1
    obtain ⟨k, hk, rfl⟩ := ix_of (by omega) b
    exact c_journeyB2 hF hB ws.1 (ws.cur t) hT ws.2.2.1 ws.2.2.2.1 hk (fun j => z ⟨b, j⟩) (x_throw hE)
abbrev mL_journey : MT := (yL_journey, cL_journey, 5, some .int)
theorem Y_L_journey : YW yL_journey cL_journey 5 (some .int) [(0, 9, 12, 13)] 4 := ⟨inT4 (List.mem_of_getElem? (i := 200) (by decide +kernel)), inT1 (List.mem_of_getElem? (i := 0) (by decide +kernel)), by decide +kernel, by decide +kernel, by decide +kernel, by decide +kernel⟩
theorem at_3 {h : List PE} {s : ST} (hc : CL h s) : ∃ fs, h[3]? = some (cO 11 fs) := ⟨_, hc.1⟩
set_option maxRecDepth 100000 in
set_option maxHeartbeats 4000000 in
theorem l_journeyS {G : GT} {h : List PE} {s : ST} {th t : Int32} {out : Nat → Int64} (hc : CL h s) (ws : WS s) (ho : h[50]? = some (cJ 1 out)) (z : ¬ bT (sC s t) th ∧ jgOk (s_tn s) (s_tv s)) : X (NF G) G mL_journey 7 141 0 [(0, .ref 3), (1, .int th), (2, .int t), (3, .ref 50)] [] h (fun o => o.1 = some (.int 0) ∧ CL o.2 (s_setTn s 0) ∧ FrJ h o.2 ∧ o.2[50]? = some (cJ 1 (vp_updL out 0 (spJr (sR s t) (sC s t) th (s_tn s) (s_tv s))))) := by
  obtain ⟨fs, f3⟩ := at_3 hc
  refine x_aload_n dL_journey_0 3 rfl ?_
  refine x_iconst (v := 0) dL_journey_1 (by decide) ?_
  refine x_aload_n dL_journey_2 0 rfl ?_
  refine x_iload_n dL_journey_3 1 rfl ?_
  refine x_iload_n dL_journey_4 2 rfl ?_
  refine x_callV (rf' := 6) (rl' := 114) [.int th, .int t] [.int 0, .ref 50] dL_journey_5 vL_7 Y_X11_journey f3 (by decide) rfl rfl (Nat.le_of_ble_eq_true rfl) (Nat.le_of_ble_eq_true rfl) (by decide) (by decide) (k_journeyS hc ws z) (fun r h1 e1 => ?_)
  obtain ⟨e0, c1, fr⟩ := e1
  cases e0
  have c1 : CL h1 (s_setTn s 0) := c1
  have fr : FrC h h1 := fr
  have o1 : h1[50]? = some (cJ 1 out) := (fr.1 50 (Or.inr ⟨by decide, by decide⟩)).trans ho
  refine x_lastN (i := 0) dL_journey_8 o1 (by decide) (by decide) (by decide) (fun h2 g50 e2 l2 s2 => ?_)
  refine x_goto (tgt := 16) dL_journey_9 (by decide) ?_
  refine x_iconst (v := 0) dL_journey_16 (by decide) ?_
  have c2 : CL h2 (s_setTn s 0) := c1.kept9 (fun j _ hj => e2 j hj) (by omega)
  have f2 : FrJ h h2 := ⟨fun j hj => (e2 j (by omega)).trans (fr.1 j (by omega)), by have := fr.2.1; omega, by have := fr.2.2.1; omega, by have := fr.2.2.2; omega⟩
  exact x_iret dL_journey_17 rfl ⟨rfl, c2, f2, g50⟩
set_option maxRecDepth 100000 in
set_option maxHeartbeats 4000000 in
theorem l_journeyT {G : GT} {h : List PE} {s : ST} {th t : Int32} {out : Nat → Int64} (hE : GE G) (hc : CL h s) (ws : WS s) (ho : h[50]? = some (cJ 1 out)) (z : ¬ (¬ bT (sC s t) th ∧ jgOk (s_tn s) (s_tv s))) : X (PF [(0, 9, 12, 13)] (NF G)) G mL_journey 7 141 0 [(0, .ref 3), (1, .int th), (2, .int t), (3, .ref 50)] [] h (fun o => o.1 = some (.int 1) ∧ CL o.2 s ∧ FrJ h o.2 ∧ o.2[50]? = some (cJ 1 out)) := by
  obtain ⟨fs, f3⟩ := at_3 hc
  have hl : 51 ≤ h.length := hc.2.2.2.2.2.2.2.2
  refine x_aload_n dL_journey_0 3 rfl ?_
  refine x_iconst (v := 0) dL_journey_1 (by decide) ?_
  refine x_aload_n dL_journey_2 0 rfl ?_
  refine x_iload_n dL_journey_3 1 rfl ?_
  refine x_iload_n dL_journey_4 2 rfl ?_
  refine x_callVT (tb1 := (0, 9, 12, 13)) (hv := 4) (rf' := 6) (rl' := 114) [.int th, .int t] [.int 0, .ref 50] dL_journey_5 vL_7 Y_X11_journey (by decide +kernel) f3 (by decide) rfl rfl (Nat.le_of_ble_eq_true rfl) (Nat.le_of_ble_eq_true rfl) (by decide) (by decide) (k_journeyT hE hc ws z) (by decide +kernel) (by decide) ns_clL dL_journey_12 (by decide) (fun h1 e1 => ?_)
  subst e1
  have e9 : ∀ j, j < h.length → (h ++ [cE])[j]? = h[j]? := fun j hj => List.getElem?_append_left hj
  have hsl : g_s (h ++ [cE]) = g_s h + 6 := g_s_push h cE
  have hln : (h ++ [cE]).length = h.length + 1 := by simp
  refine x_iconst (v := 1) dL_journey_14 (by decide) ?_
  have c2 : CL (h ++ [cE]) s := hc.kept9 (fun j hj _ => e9 j hj) (by omega)
  have f2 : FrJ h (h ++ [cE]) := ⟨fun j hj => e9 j (by omega), by omega, by omega, by omega⟩
  exact x_iret dL_journey_15 rfl ⟨rfl, c2, f2, (e9 50 (by omega)).trans ho⟩
set_option maxRecDepth 100000 in
set_option maxHeartbeats 4000000 in
theorem jc_of {G : GT} (hE : GE G) : JC G := by
  intro h s th t out lv Q hc ws ho K1 K2
  by_cases z : ¬ bT (sC s t) th ∧ jgOk (s_tn s) (s_tv s)
  · refine x_callSW (rf' := 7) (rl' := 141) (tb := [(0, 9, 12, 13)]) [.ref 3, .int th, .int t, .ref 50] [] dL_law_1088 vL_107 Y_L_journey rfl rfl (Nat.le_of_ble_eq_true rfl) (Nat.le_of_ble_eq_true rfl) (by decide) (by decide) (X.pf (l_journeyS hc ws ho z)) (fun r h1 e1 => ?_)
    obtain ⟨e0, c1, fr, o1⟩ := e1
    cases e0
    exact K1 z h1 c1 fr o1
  · refine x_callSW (rf' := 7) (rl' := 141) (tb := [(0, 9, 12, 13)]) [.ref 3, .int th, .int t, .ref 50] [] dL_law_1088 vL_107 Y_L_journey rfl rfl (Nat.le_of_ble_eq_true rfl) (Nat.le_of_ble_eq_true rfl) (by decide) (by decide) (l_journeyT hE hc ws ho z) (fun r h1 e1 => ?_)
    obtain ⟨e0, c1, fr, o1⟩ := e1
    cases e0
    exact K2 z h1 c1 fr o1

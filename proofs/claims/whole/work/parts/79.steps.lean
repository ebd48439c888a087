/-! ===== the law's calls ===== -/
/-- all that the class holds -/
def CL (h : List PE) (s : ST) : Prop := FaR h (s_n s) (s_td s) (s_fl s) (s_br s) ∧ TpR h (s_tn s) (s_tv s) ∧ RdR h ∧ BkR h (s_n s) (s_dy s) (s_rc s) (s_ct s) ∧ CuR h ∧ PcR h (s_pk s) ∧ BxR h (s_bs s) ∧ KpR h ∧ 51 ≤ h.length
/-- what a call of the class leaves alone -/
def FrC (h h1 : List PE) : Prop := (∀ j, j = 0 ∨ (36 ≤ j ∧ j ≤ 50) → h1[j]? = h[j]?) ∧ h.length ≤ h1.length ∧ h1.length ≤ h.length + 235 ∧ g_s h1 ≤ g_s h + 1274
theorem FrC.sm {L : List Nat} {h h1 : List PE} (s : Sm L h h1) (hL : ∀ j, j ∈ L → 0 < j ∧ j < 36) : FrC h h1 := ⟨fun j hj => s.2.2 j (fun q => by have := hL j q; omega), by have := s.1; omega, by have := s.1; omega, by have := s.2.1; omega⟩
theorem FrC.rf {h : List PE} : FrC h h := ⟨fun _ _ => rfl, Nat.le_refl _, by omega, by omega⟩
theorem CL.kept {L : List Nat} {h h1 : List PE} {s : ST} (x : CL h s) (f : Sm L h h1) (hL : ∀ j, j ∈ L → 36 ≤ j ∧ j < 50) : CL h1 s := by
  obtain ⟨hF, hT, hR, hB, hC, hP, hX, hK, hl⟩ := x
  have e : ∀ j, j < 36 → h1[j]? = h[j]? := fun j hj => f.2.2 j (fun q => by have := hL j q; omega)
  refine ⟨hF.kept (e 3 (by decide)), hT.kept (fun j hj => e j ?_), hR.kept (fun j a b => e j (by omega)), hB.kept (e 15 (by decide)) (fun j c hj hc => f.at hc (fun q => by have := hL j q; omega)), hC.kept (fun j hj => e j ?_), hP.kept (fun j hj => e j ?_), hX.kept (fun j hj => e j ?_), hK.kept (e 35 (by decide)), by have := f.1; omega⟩
  · revert j; decide
  · revert j; decide
  · revert j; decide
  · revert j; decide
theorem MoR.frc {h h1 : List PE} {s : ST} (x : MoR h s) (f : FrC h h1) : MoR h1 s := x.kept (fun j a b => f.1 j (Or.inr ⟨a, by omega⟩))

set_option maxRecDepth 100000 in
set_option maxHeartbeats 4000000 in
theorem k_feed {G : GT} {h : List PE} {s : ST} {xa xb xc xd xe : Int32} (hc : CL h s) (ws : WS s) : CT G mX11_feed 1 22 [.ref 3, .int xa, .int xb, .int xc, .int xd, .int xe] h (fun o => o.1 = some (.int (spFeed (s_tn s))) ∧ CL o.2 (s_setTp s (spFeedN (s_tn s)) (spFeedV (s_tv s) (s_tn s) xa xb xc xd xe)) ∧ FrC h o.2) := by
  obtain ⟨hF, hT, hR, hB, hC, hP, hX, hK, hl⟩ := id hc
  refine (c_feed hF hT ws.2.2.1).weaken (fun o ho => ?_)
  obtain ⟨o1, nT, sm⟩ := ho
  have kl : ∀ j, j ∈ [4, 5] → 0 < j ∧ j < 36 ∧ ¬ (6 ≤ j ∧ j ≤ 20) := by decide
  have kc : ∀ j, j ∈ [21, 22, 23, 24] → j ∉ [4, 5] := by decide
  have kp : ∀ j, j ∈ [25, 26, 27, 28, 29, 30, 31] → j ∉ [4, 5] := by decide
  have kx : ∀ j, j ∈ [32, 33, 34] → j ∉ [4, 5] := by decide
  exact ⟨o1, ⟨hF.kept (sm.2.2 3 (by decide)), nT, hR.kept (fun j a b => sm.2.2 j (fun q => by have := kl j q; omega)), hB.kept (sm.2.2 15 (by decide)) (fun j c hj hc => sm.at hc (fun q => by have := kl j q; omega)), hC.kept (fun j hj => sm.2.2 j (kc j hj)), hP.kept (fun j hj => sm.2.2 j (kp j hj)), hX.kept (fun j hj => sm.2.2 j (kx j hj)), hK.kept (sm.2.2 35 (by decide)), by have := sm.1; omega⟩, FrC.sm sm (fun j hj => ⟨(kl j hj).1, (kl j hj).2.1⟩)⟩

set_option maxRecDepth 100000 in
set_option maxHeartbeats 4000000 in
theorem k_end {G : GT} {h : List PE} {s : ST} {n0 : Int32} (hc : CL h s) (ws : WS s) : CT G mX11_end 0 0 [.ref 3, .int n0] h (fun o => o.1 = some (.int (spEnd (s_tn s) n0)) ∧ CL o.2 (s_setTn s (spEndN (s_tn s) n0)) ∧ FrC h o.2) := by
  obtain ⟨hF, hT, hR, hB, hC, hP, hX, hK, hl⟩ := id hc
  refine (c_end hF hT ws.2.2.1).weaken (fun o ho => ?_)
  obtain ⟨o1, nT, sm⟩ := ho
  have kl : ∀ j, j ∈ [4, 5] → 0 < j ∧ j < 36 ∧ ¬ (6 ≤ j ∧ j ≤ 20) := by decide
  have kc : ∀ j, j ∈ [21, 22, 23, 24] → j ∉ [4, 5] := by decide
  have kp : ∀ j, j ∈ [25, 26, 27, 28, 29, 30, 31] → j ∉ [4, 5] := by decide
  have kx : ∀ j, j ∈ [32, 33, 34] → j ∉ [4, 5] := by decide
  exact ⟨o1, ⟨hF.kept (sm.2.2 3 (by decide)), nT, hR.kept (fun j a b => sm.2.2 j (fun q => by have := kl j q; omega)), hB.kept (sm.2.2 15 (by decide)) (fun j c hj hc => sm.at hc (fun q => by have := kl j q; omega)), hC.kept (fun j hj => sm.2.2 j (kc j hj)), hP.kept (fun j hj => sm.2.2 j (kp j hj)), hX.kept (fun j hj => sm.2.2 j (kx j hj)), hK.kept (sm.2.2 35 (by decide)), by have := sm.1; omega⟩, FrC.sm sm (fun j hj => ⟨(kl j hj).1, (kl j hj).2.1⟩)⟩

set_option maxRecDepth 100000 in
set_option maxHeartbeats 4000000 in
theorem k_next {G : GT} {h : List PE} {s : ST} {n0 : Int32} (hc : CL h s) (ws : WS s) : CT G mX11_next 0 0 [.ref 3, .int n0] h (fun o => o.1 = some (.int (spNext (s_td s) n0)) ∧ CL o.2 (s_setTd s (spNextN (s_td s) n0)) ∧ FrC h o.2) := by
  obtain ⟨hF, hT, hR, hB, hC, hP, hX, hK, hl⟩ := id hc
  refine (c_next hF ws.2.1).weaken (fun o ho => ?_)
  obtain ⟨o1, nF, sm⟩ := ho
  have kl : ∀ j, j ∈ [3] → 0 < j ∧ j < 36 ∧ ¬ (6 ≤ j ∧ j ≤ 20) := by decide
  have kt : ∀ j, j ∈ [4, 5] → j ∉ [3] := by decide
  have kc : ∀ j, j ∈ [21, 22, 23, 24] → j ∉ [3] := by decide
  have kp : ∀ j, j ∈ [25, 26, 27, 28, 29, 30, 31] → j ∉ [3] := by decide
  have kx : ∀ j, j ∈ [32, 33, 34] → j ∉ [3] := by decide
  exact ⟨o1, ⟨nF, hT.kept (fun j hj => sm.2.2 j (kt j hj)), hR.kept (fun j a b => sm.2.2 j (fun q => by have := kl j q; omega)), hB.kept (sm.2.2 15 (by decide)) (fun j c hj hc => sm.at hc (fun q => by have := kl j q; omega)), hC.kept (fun j hj => sm.2.2 j (kc j hj)), hP.kept (fun j hj => sm.2.2 j (kp j hj)), hX.kept (fun j hj => sm.2.2 j (kx j hj)), hK.kept (sm.2.2 35 (by decide)), by have := sm.1; omega⟩, FrC.sm sm (fun j hj => ⟨(kl j hj).1, (kl j hj).2.1⟩)⟩

set_option maxRecDepth 100000 in
set_option maxHeartbeats 4000000 in
theorem k_fault {G : GT} {h : List PE} {s : ST} (hc : CL h s) (ws : WS s) : CT G mX11_fault 0 0 [.ref 3] h (fun o => o.1 = some (.int (s_fl s)) ∧ CL o.2 (s) ∧ FrC h o.2) := by
  obtain ⟨hF, hT, hR, hB, hC, hP, hX, hK, hl⟩ := id hc
  refine (c_fault hF).weaken (fun o ho => ?_)
  cases ho
  exact ⟨rfl, hc, FrC.rf⟩

set_option maxRecDepth 100000 in
set_option maxHeartbeats 4000000 in
theorem k_many {G : GT} {h : List PE} {s : ST} {x t : Int32} (hc : CL h s) (ws : WS s) : CT G mX11_many 2 43 [.ref 3, .int x, .int t] h (fun o => o.1 = some (.int (spMany (sC s t) x)) ∧ CL o.2 (s) ∧ FrC h o.2) := by
  obtain ⟨hF, hT, hR, hB, hC, hP, hX, hK, hl⟩ := id hc
  refine (c_many hF hB ws.1).weaken (fun o ho => ?_)
  cases ho
  exact ⟨rfl, hc, FrC.rf⟩

set_option maxRecDepth 100000 in
set_option maxHeartbeats 4000000 in
theorem k_push {G : GT} {h : List PE} {s : ST} {fo pct kt t : Int32} (hc : CL h s) (ws : WS s) : CT G mX11_push 2 43 [.ref 3, .int fo, .int pct, .int kt, .int t] h (fun o => o.1 = some (.int (spPush (sR s t) (sC s t) fo pct kt)) ∧ CL o.2 (s) ∧ FrC h o.2) := by
  obtain ⟨hF, hT, hR, hB, hC, hP, hX, hK, hl⟩ := id hc
  refine (c_push hF hB ws.1 (ws.cur t)).weaken (fun o ho => ?_)
  cases ho
  exact ⟨rfl, hc, FrC.rf⟩

set_option maxRecDepth 100000 in
set_option maxHeartbeats 4000000 in
theorem k_squeeze {G : GT} {h : List PE} {s : ST} {th sd hh kt t : Int32} (hc : CL h s) (ws : WS s) : CT G mX11_squeeze 5 110 [.ref 3, .int th, .int sd, .int hh, .int kt, .int t] h (fun o => o.1 = some (.int (spSq (sR s t) (sC s t) th sd hh kt)) ∧ CL o.2 (s) ∧ FrC h o.2) := by
  obtain ⟨hF, hT, hR, hB, hC, hP, hX, hK, hl⟩ := id hc
  refine (c_squeeze hF hB ws.1 hC (ws.cur t)).weaken (fun o ho => ?_)
  obtain ⟨o1, nC, sm⟩ := ho
  have kl : ∀ j, j ∈ [21, 22, 23, 24] → 0 < j ∧ j < 36 ∧ ¬ (6 ≤ j ∧ j ≤ 20) := by decide
  have kt : ∀ j, j ∈ [4, 5] → j ∉ [21, 22, 23, 24] := by decide
  have kp : ∀ j, j ∈ [25, 26, 27, 28, 29, 30, 31] → j ∉ [21, 22, 23, 24] := by decide
  have kx : ∀ j, j ∈ [32, 33, 34] → j ∉ [21, 22, 23, 24] := by decide
  exact ⟨o1, ⟨hF.kept (sm.2.2 3 (by decide)), hT.kept (fun j hj => sm.2.2 j (kt j hj)), hR.kept (fun j a b => sm.2.2 j (fun q => by have := kl j q; omega)), hB.kept (sm.2.2 15 (by decide)) (fun j c hj hc => sm.at hc (fun q => by have := kl j q; omega)), nC, hP.kept (fun j hj => sm.2.2 j (kp j hj)), hX.kept (fun j hj => sm.2.2 j (kx j hj)), hK.kept (sm.2.2 35 (by decide)), by have := sm.1; omega⟩, FrC.sm sm (fun j hj => ⟨(kl j hj).1, (kl j hj).2.1⟩)⟩

set_option maxRecDepth 100000 in
set_option maxHeartbeats 4000000 in
theorem k_blow {G : GT} {h : List PE} {s : ST} {th sd hh kt t : Int32} (hc : CL h s) (ws : WS s) : CT G mX11_blow 5 110 [.ref 3, .int th, .int sd, .int hh, .int kt, .int t] h (fun o => o.1 = some (.int (spBl (sR s t) (sC s t) th sd hh kt)) ∧ CL o.2 (s) ∧ FrC h o.2) := by
  obtain ⟨hF, hT, hR, hB, hC, hP, hX, hK, hl⟩ := id hc
  refine (c_blow hF hB ws.1 hC (ws.cur t)).weaken (fun o ho => ?_)
  obtain ⟨o1, nC, sm⟩ := ho
  have kl : ∀ j, j ∈ [21, 22, 23, 24] → 0 < j ∧ j < 36 ∧ ¬ (6 ≤ j ∧ j ≤ 20) := by decide
  have kt : ∀ j, j ∈ [4, 5] → j ∉ [21, 22, 23, 24] := by decide
  have kp : ∀ j, j ∈ [25, 26, 27, 28, 29, 30, 31] → j ∉ [21, 22, 23, 24] := by decide
  have kx : ∀ j, j ∈ [32, 33, 34] → j ∉ [21, 22, 23, 24] := by decide
  exact ⟨o1, ⟨hF.kept (sm.2.2 3 (by decide)), hT.kept (fun j hj => sm.2.2 j (kt j hj)), hR.kept (fun j a b => sm.2.2 j (fun q => by have := kl j q; omega)), hB.kept (sm.2.2 15 (by decide)) (fun j c hj hc => sm.at hc (fun q => by have := kl j q; omega)), nC, hP.kept (fun j hj => sm.2.2 j (kp j hj)), hX.kept (fun j hj => sm.2.2 j (kx j hj)), hK.kept (sm.2.2 35 (by decide)), by have := sm.1; omega⟩, FrC.sm sm (fun j hj => ⟨(kl j hj).1, (kl j hj).2.1⟩)⟩

set_option maxRecDepth 100000 in
set_option maxHeartbeats 4000000 in
theorem k_again {G : GT} {h : List PE} {s : ST} {th sd hh t : Int32} (hc : CL h s) (ws : WS s) : CT G mX11_again 5 110 [.ref 3, .int th, .int sd, .int hh, .int t] h (fun o => o.1 = some (.int (spAg (sR s t) (sC s t) th sd hh)) ∧ CL o.2 (s) ∧ FrC h o.2) := by
  obtain ⟨hF, hT, hR, hB, hC, hP, hX, hK, hl⟩ := id hc
  refine (c_again hF hB ws.1 hC (ws.cur t)).weaken (fun o ho => ?_)
  obtain ⟨o1, nC, sm⟩ := ho
  have kl : ∀ j, j ∈ [21, 22, 23, 24] → 0 < j ∧ j < 36 ∧ ¬ (6 ≤ j ∧ j ≤ 20) := by decide
  have kt : ∀ j, j ∈ [4, 5] → j ∉ [21, 22, 23, 24] := by decide
  have kp : ∀ j, j ∈ [25, 26, 27, 28, 29, 30, 31] → j ∉ [21, 22, 23, 24] := by decide
  have kx : ∀ j, j ∈ [32, 33, 34] → j ∉ [21, 22, 23, 24] := by decide
  exact ⟨o1, ⟨hF.kept (sm.2.2 3 (by decide)), hT.kept (fun j hj => sm.2.2 j (kt j hj)), hR.kept (fun j a b => sm.2.2 j (fun q => by have := kl j q; omega)), hB.kept (sm.2.2 15 (by decide)) (fun j c hj hc => sm.at hc (fun q => by have := kl j q; omega)), nC, hP.kept (fun j hj => sm.2.2 j (kp j hj)), hX.kept (fun j hj => sm.2.2 j (kx j hj)), hK.kept (sm.2.2 35 (by decide)), by have := sm.1; omega⟩, FrC.sm sm (fun j hj => ⟨(kl j hj).1, (kl j hj).2.1⟩)⟩

set_option maxRecDepth 100000 in
set_option maxHeartbeats 4000000 in
theorem k_breaks {G : GT} {h : List PE} {s : ST} {th t : Int32} (hc : CL h s) (ws : WS s) : CT G mX11_breaks 5 113 [.ref 3, .int th, .int t] h (fun o => o.1 = some (.int (spBkA (sR s t) (sC s t) th)) ∧ CL o.2 (s_setBr s (spBkT (sR s t) (sC s t) th (s_br s))) ∧ FrC h o.2) := by
  obtain ⟨hF, hT, hR, hB, hC, hP, hX, hK, hl⟩ := id hc
  refine (c_breaks hF hB ws.1 hC hK (ws.cur t)).weaken (fun o ho => ?_)
  obtain ⟨o1, nF, nC, nK, sm⟩ := ho
  have kl : ∀ j, j ∈ [3, 21, 22, 23, 24, 35] → 0 < j ∧ j < 36 ∧ ¬ (6 ≤ j ∧ j ≤ 20) := by decide
  have kt : ∀ j, j ∈ [4, 5] → j ∉ [3, 21, 22, 23, 24, 35] := by decide
  have kp : ∀ j, j ∈ [25, 26, 27, 28, 29, 30, 31] → j ∉ [3, 21, 22, 23, 24, 35] := by decide
  have kx : ∀ j, j ∈ [32, 33, 34] → j ∉ [3, 21, 22, 23, 24, 35] := by decide
  exact ⟨o1, ⟨nF, hT.kept (fun j hj => sm.2.2 j (kt j hj)), hR.kept (fun j a b => sm.2.2 j (fun q => by have := kl j q; omega)), hB.kept (sm.2.2 15 (by decide)) (fun j c hj hc => sm.at hc (fun q => by have := kl j q; omega)), nC, hP.kept (fun j hj => sm.2.2 j (kp j hj)), hX.kept (fun j hj => sm.2.2 j (kx j hj)), nK, by have := sm.1; omega⟩, FrC.sm sm (fun j hj => ⟨(kl j hj).1, (kl j hj).2.1⟩)⟩

set_option maxRecDepth 100000 in
set_option maxHeartbeats 4000000 in
theorem k_breaksAt {G : GT} {h : List PE} {s : ST} (hc : CL h s) (ws : WS s) : CT G mX11_breaksAt 0 0 [.ref 3] h (fun o => o.1 = some (.int (s_br s)) ∧ CL o.2 (s) ∧ FrC h o.2) := by
  obtain ⟨hF, hT, hR, hB, hC, hP, hX, hK, hl⟩ := id hc
  refine (c_breaksAt hF).weaken (fun o ho => ?_)
  cases ho
  exact ⟨rfl, hc, FrC.rf⟩

set_option maxRecDepth 100000 in
set_option maxHeartbeats 4000000 in
theorem k_spans {G : GT} {h : List PE} {s : ST} {th sd hh t : Int32} (hc : CL h s) (ws : WS s) : CT G mX11_spans 5 110 [.ref 3, .int th, .int sd, .int hh, .int t] h (fun o => o.1 = some (.int (spSp (sR s t) (sC s t) th sd hh (s_tn s) (s_tv s))) ∧ CL o.2 (s_setTn s 0) ∧ FrC h o.2) := by
  obtain ⟨hF, hT, hR, hB, hC, hP, hX, hK, hl⟩ := id hc
  refine (c_spans hF hB ws.1 hC (ws.cur t) hT ws.2.2.1 ws.2.2.2.1).weaken (fun o ho => ?_)
  obtain ⟨o1, nT, nC, sm⟩ := ho
  have kl : ∀ j, j ∈ [4, 21, 22, 23, 24] → 0 < j ∧ j < 36 ∧ ¬ (6 ≤ j ∧ j ≤ 20) := by decide
  have kp : ∀ j, j ∈ [25, 26, 27, 28, 29, 30, 31] → j ∉ [4, 21, 22, 23, 24] := by decide
  have kx : ∀ j, j ∈ [32, 33, 34] → j ∉ [4, 21, 22, 23, 24] := by decide
  exact ⟨o1, ⟨hF.kept (sm.2.2 3 (by decide)), nT, hR.kept (fun j a b => sm.2.2 j (fun q => by have := kl j q; omega)), hB.kept (sm.2.2 15 (by decide)) (fun j c hj hc => sm.at hc (fun q => by have := kl j q; omega)), nC, hP.kept (fun j hj => sm.2.2 j (kp j hj)), hX.kept (fun j hj => sm.2.2 j (kx j hj)), hK.kept (sm.2.2 35 (by decide)), by have := sm.1; omega⟩, FrC.sm sm (fun j hj => ⟨(kl j hj).1, (kl j hj).2.1⟩)⟩

set_option maxRecDepth 100000 in
set_option maxHeartbeats 4000000 in
theorem k_highest {G : GT} {h : List PE} {s : ST} {th sd t : Int32} (hc : CL h s) (ws : WS s) : CT G mX11_highest 5 117 [.ref 3, .int th, .int sd, .int t] h (fun o => o.1 = some (.int (spHi (sR s t) (sC s t) th sd)) ∧ CL o.2 (s) ∧ FrC h o.2) := by
  obtain ⟨hF, hT, hR, hB, hC, hP, hX, hK, hl⟩ := id hc
  refine (c_highest hF hB ws.1 hC (ws.cur t)).weaken (fun o ho => ?_)
  obtain ⟨o1, nC, sm⟩ := ho
  have kl : ∀ j, j ∈ [21, 22, 23, 24] → 0 < j ∧ j < 36 ∧ ¬ (6 ≤ j ∧ j ≤ 20) := by decide
  have kt : ∀ j, j ∈ [4, 5] → j ∉ [21, 22, 23, 24] := by decide
  have kp : ∀ j, j ∈ [25, 26, 27, 28, 29, 30, 31] → j ∉ [21, 22, 23, 24] := by decide
  have kx : ∀ j, j ∈ [32, 33, 34] → j ∉ [21, 22, 23, 24] := by decide
  exact ⟨o1, ⟨hF.kept (sm.2.2 3 (by decide)), hT.kept (fun j hj => sm.2.2 j (kt j hj)), hR.kept (fun j a b => sm.2.2 j (fun q => by have := kl j q; omega)), hB.kept (sm.2.2 15 (by decide)) (fun j c hj hc => sm.at hc (fun q => by have := kl j q; omega)), nC, hP.kept (fun j hj => sm.2.2 j (kp j hj)), hX.kept (fun j hj => sm.2.2 j (kx j hj)), hK.kept (sm.2.2 35 (by decide)), by have := sm.1; omega⟩, FrC.sm sm (fun j hj => ⟨(kl j hj).1, (kl j hj).2.1⟩)⟩

set_option maxRecDepth 100000 in
set_option maxHeartbeats 4000000 in
theorem k_recorded {G : GT} {h : List PE} {s : ST} {th sd a b t wh : Int32} (hc : CL h s) (ws : WS s) : CT G mX11_recorded 5 117 [.ref 3, .int th, .int sd, .int a, .int b, .int t, .int wh] h (fun o => o.1 = some (.int (spRe (sR s t) (sC s t) th sd a b wh)) ∧ CL o.2 (s) ∧ FrC h o.2) := by
  obtain ⟨hF, hT, hR, hB, hC, hP, hX, hK, hl⟩ := id hc
  refine (c_recorded hF hB ws.1 hC (ws.cur t)).weaken (fun o ho => ?_)
  obtain ⟨o1, nC, sm⟩ := ho
  have kl : ∀ j, j ∈ [21, 22, 23, 24] → 0 < j ∧ j < 36 ∧ ¬ (6 ≤ j ∧ j ≤ 20) := by decide
  have kt : ∀ j, j ∈ [4, 5] → j ∉ [21, 22, 23, 24] := by decide
  have kp : ∀ j, j ∈ [25, 26, 27, 28, 29, 30, 31] → j ∉ [21, 22, 23, 24] := by decide
  have kx : ∀ j, j ∈ [32, 33, 34] → j ∉ [21, 22, 23, 24] := by decide
  exact ⟨o1, ⟨hF.kept (sm.2.2 3 (by decide)), hT.kept (fun j hj => sm.2.2 j (kt j hj)), hR.kept (fun j a b => sm.2.2 j (fun q => by have := kl j q; omega)), hB.kept (sm.2.2 15 (by decide)) (fun j c hj hc => sm.at hc (fun q => by have := kl j q; omega)), nC, hP.kept (fun j hj => sm.2.2 j (kp j hj)), hX.kept (fun j hj => sm.2.2 j (kx j hj)), hK.kept (sm.2.2 35 (by decide)), by have := sm.1; omega⟩, FrC.sm sm (fun j hj => ⟨(kl j hj).1, (kl j hj).2.1⟩)⟩

set_option maxRecDepth 100000 in
set_option maxHeartbeats 4000000 in
theorem k_pads {G : GT} {h : List PE} {s : ST} {th bx ar hh t : Int32} (hc : CL h s) (ws : WS s) : CT G mX11_pads 4 90 [.ref 3, .int th, .int bx, .int ar, .int hh, .int t] h (fun o => o.1 = some (.int (spPdA (sR s t) (sC s t) th bx ar hh (s_tn s) (s_tv s))) ∧ CL o.2 (s_setPk s 0 (spPdK (sR s t) (sC s t) th bx ar hh (s_tn s) (s_tv s) (s_pk s))) ∧ FrC h o.2) := by
  obtain ⟨hF, hT, hR, hB, hC, hP, hX, hK, hl⟩ := id hc
  refine (c_pads hF hB ws.1 hC (ws.cur t) hT ws.2.2.1 ws.2.2.2.1 hP).weaken (fun o ho => ?_)
  obtain ⟨o1, nT, nC, nP, sm⟩ := ho
  have kl : ∀ j, j ∈ [4, 21, 22, 23, 24, 25, 26, 27, 28, 29, 30, 31] → 0 < j ∧ j < 36 ∧ ¬ (6 ≤ j ∧ j ≤ 20) := by decide
  have kx : ∀ j, j ∈ [32, 33, 34] → j ∉ [4, 21, 22, 23, 24, 25, 26, 27, 28, 29, 30, 31] := by decide
  exact ⟨o1, ⟨hF.kept (sm.2.2 3 (by decide)), nT, hR.kept (fun j a b => sm.2.2 j (fun q => by have := kl j q; omega)), hB.kept (sm.2.2 15 (by decide)) (fun j c hj hc => sm.at hc (fun q => by have := kl j q; omega)), nC, nP, hX.kept (fun j hj => sm.2.2 j (kx j hj)), hK.kept (sm.2.2 35 (by decide)), by have := sm.1; omega⟩, FrC.sm sm (fun j hj => ⟨(kl j hj).1, (kl j hj).2.1⟩)⟩

set_option maxRecDepth 100000 in
set_option maxHeartbeats 4000000 in
theorem k_padAt {G : GT} {h : List PE} {s : ST} {sd : Int32} (hc : CL h s) (ws : WS s) : CT G mX11_padAt 1 20 [.ref 3, .int sd] h (fun o => o.1 = some (.int (spPadAt (s_pk s) sd)) ∧ CL o.2 (s) ∧ FrC h o.2) := by
  obtain ⟨hF, hT, hR, hB, hC, hP, hX, hK, hl⟩ := id hc
  refine (c_padAt hF hP).weaken (fun o ho => ?_)
  cases ho
  exact ⟨rfl, hc, FrC.rf⟩

set_option maxRecDepth 100000 in
set_option maxHeartbeats 4000000 in
theorem k_boxes {G : GT} {h : List PE} {s : ST} {mg most t : Int32} (hc : CL h s) (ws : WS s) : CT G mX11_boxes 3 73 [.ref 3, .int mg, .int most, .int t] h (fun o => o.1 = some (.int (spBx (sR s t) (sC s t) mg most)) ∧ CL o.2 (s_setBs s (spBs (sR s t) (sC s t) mg most (s_bs s))) ∧ FrC h o.2) := by
  obtain ⟨hF, hT, hR, hB, hC, hP, hX, hK, hl⟩ := id hc
  refine (c_boxes hF hB ws.1 (ws.cur t) hX).weaken (fun o ho => ?_)
  obtain ⟨o1, nX, sm⟩ := ho
  have kl : ∀ j, j ∈ [32, 33, 34] → 0 < j ∧ j < 36 ∧ ¬ (6 ≤ j ∧ j ≤ 20) := by decide
  have kt : ∀ j, j ∈ [4, 5] → j ∉ [32, 33, 34] := by decide
  have kc : ∀ j, j ∈ [21, 22, 23, 24] → j ∉ [32, 33, 34] := by decide
  have kp : ∀ j, j ∈ [25, 26, 27, 28, 29, 30, 31] → j ∉ [32, 33, 34] := by decide
  exact ⟨o1, ⟨hF.kept (sm.2.2 3 (by decide)), hT.kept (fun j hj => sm.2.2 j (kt j hj)), hR.kept (fun j a b => sm.2.2 j (fun q => by have := kl j q; omega)), hB.kept (sm.2.2 15 (by decide)) (fun j c hj hc => sm.at hc (fun q => by have := kl j q; omega)), hC.kept (fun j hj => sm.2.2 j (kc j hj)), hP.kept (fun j hj => sm.2.2 j (kp j hj)), nX, hK.kept (sm.2.2 35 (by decide)), by have := sm.1; omega⟩, FrC.sm sm (fun j hj => ⟨(kl j hj).1, (kl j hj).2.1⟩)⟩

set_option maxRecDepth 100000 in
set_option maxHeartbeats 4000000 in
theorem k_boxSet {G : GT} {h : List PE} {s : ST} (hc : CL h s) (ws : WS s) : CT G mX11_boxSet 0 0 [.ref 3] h (fun o => o.1 = some (.int (s_bs s)) ∧ CL o.2 (s) ∧ FrC h o.2) := by
  obtain ⟨hF, hT, hR, hB, hC, hP, hX, hK, hl⟩ := id hc
  refine (c_boxSet hF hX).weaken (fun o ho => ?_)
  cases ho
  exact ⟨rfl, hc, FrC.rf⟩

set_option maxRecDepth 100000 in
set_option maxHeartbeats 4000000 in
theorem k_stack {G : GT} {h : List PE} {s : ST} {bx nn ww t : Int32} (hc : CL h s) (ws : WS s) : CT G mX11_stack 2 44 [.ref 3, .int bx, .int nn, .int ww, .int t] h (fun o => o.1 = some (.int (spStack (sR s t) (sC s t) bx nn ww (s_tn s) (s_tv s))) ∧ CL o.2 (s_setTn s 0) ∧ FrC h o.2) := by
  obtain ⟨hF, hT, hR, hB, hC, hP, hX, hK, hl⟩ := id hc
  refine (c_stack hF hB ws.1 (ws.cur t) hT ws.2.2.1).weaken (fun o ho => ?_)
  obtain ⟨o1, nT, sm⟩ := ho
  have kl : ∀ j, j ∈ [4, 5] → 0 < j ∧ j < 36 ∧ ¬ (6 ≤ j ∧ j ≤ 20) := by decide
  have kc : ∀ j, j ∈ [21, 22, 23, 24] → j ∉ [4, 5] := by decide
  have kp : ∀ j, j ∈ [25, 26, 27, 28, 29, 30, 31] → j ∉ [4, 5] := by decide
  have kx : ∀ j, j ∈ [32, 33, 34] → j ∉ [4, 5] := by decide
  exact ⟨o1, ⟨hF.kept (sm.2.2 3 (by decide)), nT, hR.kept (fun j a b => sm.2.2 j (fun q => by have := kl j q; omega)), hB.kept (sm.2.2 15 (by decide)) (fun j c hj hc => sm.at hc (fun q => by have := kl j q; omega)), hC.kept (fun j hj => sm.2.2 j (kc j hj)), hP.kept (fun j hj => sm.2.2 j (kp j hj)), hX.kept (fun j hj => sm.2.2 j (kx j hj)), hK.kept (sm.2.2 35 (by decide)), by have := sm.1; omega⟩, FrC.sm sm (fun j hj => ⟨(kl j hj).1, (kl j hj).2.1⟩)⟩

set_option maxRecDepth 100000 in
set_option maxHeartbeats 4000000 in
theorem k_proved {G : GT} {h : List PE} {s : ST} {n sx : Int32} (hc : CL h s) (ws : WS s) : CT G mX11_proved 1 25 [.ref 3, .int n, .int sx] h (fun o => o.1 = some (.int (spProved n sx)) ∧ CL o.2 (s) ∧ FrC h o.2) := by
  obtain ⟨hF, hT, hR, hB, hC, hP, hX, hK, hl⟩ := id hc
  refine (c_proved ).weaken (fun o ho => ?_)
  cases ho
  exact ⟨rfl, hc, FrC.rf⟩

set_option maxRecDepth 100000 in
set_option maxHeartbeats 4000000 in
theorem k_needed {G : GT} {h : List PE} {s : ST} {p sx : Int32} (hc : CL h s) (ws : WS s) : CT G mX11_needed 0 0 [.ref 3, .int p, .int sx] h (fun o => o.1 = some (.int (spNeeded p sx)) ∧ CL o.2 (s) ∧ FrC h o.2) := by
  obtain ⟨hF, hT, hR, hB, hC, hP, hX, hK, hl⟩ := id hc
  refine (c_needed ).weaken (fun o ho => ?_)
  cases ho
  exact ⟨rfl, hc, FrC.rf⟩

set_option maxRecDepth 100000 in
set_option maxHeartbeats 4000000 in
theorem k_count {G : GT} {h : List PE} {s : ST} {x : Int32} (hc : CL h s) (ws : WS s) : CT G mX11_count 0 0 [.ref 3, .int x] h (fun o => o.1 = some (.int (spCount (s_td s) (s_n s) (s_tn s) x)) ∧ CL o.2 (s) ∧ FrC h o.2) := by
  obtain ⟨hF, hT, hR, hB, hC, hP, hX, hK, hl⟩ := id hc
  refine (c_count hF hT).weaken (fun o ho => ?_)
  cases ho
  exact ⟨rfl, hc, FrC.rf⟩

set_option maxRecDepth 100000 in
set_option maxHeartbeats 4000000 in
theorem k_book {G : GT} {h : List PE} {s : ST} {R0 : Nat → Int32} (hc : CL h s) (ws : WS s) (hR0 : R0 0 = 0 ∧ R0 1 = 0 ∧ R0 2 = 0 ∧ R0 3 = 0) : CT G mX11_book 6 135 [.ref 3] h (fun o => o.1 = some (.int (bkA s R0)) ∧ CL o.2 (bkS s R0) ∧ WS (bkS s R0) ∧ FrC h o.2) := by
  obtain ⟨hF, hT, hR, hB, hC, hP, hX, hK, hl⟩ := id hc
  refine (c_book (R0 := R0) hF hB ws.1 hT ws.2.2.1 ws.2.2.2.1 hR hl hR0).weaken (fun o ho => ?_)
  obtain ⟨g, r, t, e⟩ := ho
  have lb : ∀ j, j ∈ [3, 4, 6, 7, 9, 10, 11, 12, 13, 14, 15] → 0 < j ∧ j < 16 := by decide
  have k : ∀ j, 16 ≤ j → j < 51 → o.2[j]? = h[j]? := fun j h1 h2 => g.1 j (by omega) (fun q => by have := lb j q; omega)
  have fr : FrC h o.2 := ⟨fun j hj => g.1 j (by omega) (fun q => by have := lb j q; omega), g.2.1, g.2.2.1, g.2.2.2⟩
  have l9 : 51 ≤ o.2.length := by have := g.2.1; omega
  have nC := hC.kept (fun j hj => k j (by have : 21 ≤ j ∧ j ≤ 24 := by (revert j; decide)
                                          omega) (by have : 21 ≤ j ∧ j ≤ 24 := by (revert j; decide)
                                                     omega))
  have nP := hP.kept (fun j hj => k j (by have : 25 ≤ j ∧ j ≤ 31 := by (revert j; decide)
                                          omega) (by have : 25 ≤ j ∧ j ≤ 31 := by (revert j; decide)
                                                     omega))
  have nX := hX.kept (fun j hj => k j (by have : 32 ≤ j ∧ j ≤ 34 := by (revert j; decide)
                                          omega) (by have : 32 ≤ j ∧ j ≤ 34 := by (revert j; decide)
                                                     omega))
  have nK := hK.kept (k 35 (by decide) (by decide))
  unfold bkA bkS
  by_cases q : 20 ≤ s_n s
  · rw [if_pos q] at e
    rw [if_pos q, if_pos q]
    exact ⟨e.1, ⟨e.2.1, t, r, e.2.2, nC, nP, nX, nK, l9⟩, ⟨ws.1, ws.2.1, Nat.zero_le _, fun j hj => absurd hj (Nat.not_lt_zero j), ws.2.2.2.2⟩, fr⟩
  · rw [if_neg q] at e
    rw [if_neg q, if_neg q]
    cases hr : bkRun s R0 with
    | inl f =>
      rw [show runF (s_tn s) (s_tv s) 601 (0, [], (0, 0, 0, 0), R0) 0 = .inl f from hr] at e
      exact ⟨e.1, ⟨e.2.1, t, r, e.2.2, nC, nP, nX, nK, l9⟩, ⟨ws.1, ws.2.1, Nat.zero_le _, fun j hj => absurd hj (Nat.not_lt_zero j), ws.2.2.2.2⟩, fr⟩
    | inr y =>
      rw [show runF (s_tn s) (s_tv s) 601 (0, [], (0, 0, 0, 0), R0) 0 = .inr y from hr] at e
      obtain ⟨e1, e2, e3, e4⟩ := e
      refine ⟨e1, ⟨e2, t, r, e3, nC, nP, nX, nK, l9⟩, ⟨by show s_n s + 1 ≤ 20; omega, ws.2.1, Nat.zero_le _, fun j hj => absurd hj (Nat.not_lt_zero j), fun k hk => ?_⟩, fr⟩
      have hk : k < s_n s + 1 := hk
      show WFk (va_up (s_rc s) (s_n s) y.1.2.2.2 k) (va_up (s_ct s) (s_n s) y.1.2.2.1 k)
      by_cases z : k = s_n s
      · rw [z, va_up_s, va_up_s]; exact e4.1
      · rw [va_up_n z, va_up_n z]; exact ws.2.2.2.2 k (by omega)

theorem ws_tn {s : ST} {n : Nat} (ws : WS s) (h : n ≤ s_tn s) : WS (s_setTn s n) := ⟨ws.1, ws.2.1, by have := ws.2.2.1; show n ≤ 640; omega, fun j hj => ws.2.2.2.1 j (by have hj : j < n := hj; omega), ws.2.2.2.2⟩
theorem ws_end {s : ST} {n0 : Int32} (ws : WS s) : WS (s_setTn s (spEndN (s_tn s) n0)) := ws_tn ws (by
  have h6 := ws.2.2.1
  unfold spEndN
  by_cases q : n0 < 0 ∨ nI (s_tn s) < n0
  · rw [if_pos q]; exact Nat.le_refl _
  · rw [if_neg q]
    obtain ⟨k, hk, rfl⟩ := ix_le (m := s_tn s) (by omega) q
    rw [nI_clamp (by omega)]; exact hk)
theorem ws_next {s : ST} {n0 : Int32} (ws : WS s) : WS (s_setTd s (spNextN (s_td s) n0)) := ⟨ws.1, by
  have h6 := ws.2.1
  show spNextN (s_td s) n0 ≤ 999
  unfold spNextN
  by_cases q : n0 < 0 ∨ nI (999 - s_td s) < n0
  · rw [if_pos q]; exact h6
  · rw [if_neg q]
    obtain ⟨k, hk, rfl⟩ := ix_le (m := 999 - s_td s) (by omega) q
    rw [nI_clamp (by omega)]; omega, ws.2.2⟩

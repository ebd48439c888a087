def FrJ (h h1 : List PE) : Prop := (∀ j, j = 0 ∨ (36 ≤ j ∧ j < 50) → h1[j]? = h[j]?) ∧ h.length ≤ h1.length ∧ h1.length ≤ h.length + 235 ∧ g_s h1 ≤ g_s h + 1274
/-- the law's call of its own journey -/
def JC (G : GT) : Prop := ∀ (h : List PE) (s : ST) (th t : Int32) (out : Nat → Int64) (lv : List (Nat × Value)) (Q : OT → Prop), CL h s → WS s → h[50]? = some (cJ 1 out) → ((¬ bT (sC s t) th ∧ jgOk (s_tn s) (s_tv s)) → ∀ h1, CL h1 (s_setTn s 0) → FrJ h h1 → h1[50]? = some (cJ 1 (vp_updL out 0 (spJr (sR s t) (sC s t) th (s_tn s) (s_tv s)))) → X (NF G) G mL_law 8 184 1091 lv [.int 0] h1 Q) → (¬ (¬ bT (sC s t) th ∧ jgOk (s_tn s) (s_tv s)) → ∀ h1, CL h1 s → FrJ h h1 → h1[50]? = some (cJ 1 out) → X (NF G) G mL_law 8 184 1091 lv [.int 1] h1 Q) → X (NF G) G mL_law 8 184 1088 lv [.ref 50, .int t, .int th, .ref 3] h Q
theorem MoR.frj {h h1 : List PE} {s : ST} (x : MoR h s) (f : FrJ h h1) : MoR h1 s := x.kept (fun j a b => f.1 j (Or.inr ⟨a, b⟩))
theorem LI.stepJ {h h1 h2 : List PE} {s s1 : ST} {n : Nat} {out : Nat → Int64} (x : LI h s n) (f : FrJ h h1) (c : CL h1 s1) (ho : h1[50]? = some (cJ 1 out)) (sm : Sm [36, 41, 42] h1 h2) (m : MoR h2 s1) (w : WS s1) : LI h2 s1 (n + 1) := by
  obtain ⟨-, -, -, -, l1, l2⟩ := x
  refine ⟨c.kept sm (by decide), m, w, ⟨out, sm.at ho (by decide)⟩, ?_, ?_⟩
  · have := sm.1; have := f.2.2.1; omega
  · have := sm.2.1; have := f.2.2.2; omega
theorem m_journey3 {G : GT} {h : List PE} {s : ST} {th t : Int32} (hM : MoR h s) (hW : WS s) : ((¬ bT (sC s t) th ∧ jgOk (s_tn s) (s_tv s)) → CT G mX12_journey 3 65 [.ref 36, .int th, .int t] h (fun o => o.1 = some (.long (spJr (sR s t) (sC s t) th (s_tn s) (s_tv s))) ∧ MoR o.2 (s_setTn s 0) ∧ (∃ fs, o.2[36]? = some (cO 12 (.int 0 :: fs))) ∧ Sm [36, 41, 42] h o.2)) ∧ (¬ (¬ bT (sC s t) th ∧ jgOk (s_tn s) (s_tv s)) → CT G mX12_journey 3 65 [.ref 36, .int th, .int t] h (fun o => o.1 = some (.long (spJr (sR s t) (sC s t) th (s_tn s) (s_tv s))) ∧ MoR o.2 s ∧ (∃ fs, o.2[36]? = some (cO 12 (.int 1 :: fs))) ∧ Sm [36, 41, 42] h o.2)) := by
  refine ⟨fun z => ?_, fun z => ?_⟩
  · obtain ⟨k, hk, rfl⟩ := ix_of (by have := (hW.cur t).2.2.2.1; omega) z.1
    exact m_journeyS hM hW hk z.2
  · by_cases b : bT (sC s t) th
    · exact m_journeyN hM hW b
    · obtain ⟨k, hk, rfl⟩ := ix_of (by have := (hW.cur t).2.2.2.1; omega) b
      exact m_journeyB hM hW hk (fun j => z ⟨b, j⟩)

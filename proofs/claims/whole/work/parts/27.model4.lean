def cQ (c : Nat × Nat × Nat × Nat) (q : Nat) : Nat := match q with
  | 0 => c.1
  | 1 => c.2.1
  | 2 => c.2.2.1
  | _ => c.2.2.2
theorem cQ_rec {rec : Nat → Int32} {c : Nat × Nat × Nat × Nat} (W : WFk rec c) {q : Nat} (hq : q < 4) : rec q = nI (cQ c q) ∧ cQ c q ≤ 20 := by
  obtain ⟨a1, a2, a3, a4, a5, a6, a7, a8, -⟩ := W
  match q, hq with
  | 0, _ => exact ⟨a1, by show c.1 ≤ 20; omega⟩
  | 1, _ => exact ⟨a3, by show c.2.1 ≤ 20; omega⟩
  | 2, _ => exact ⟨a5, by show c.2.2.1 ≤ 20; omega⟩
  | 3, _ => exact ⟨a7, a8⟩
/-- the model's told books -/
def MB (n : Nat) (dy bk : Nat → Int32) (sdy : Nat → Int32) (rc : Nat → Nat → Int32) : Prop := n ≤ 20 ∧ ∀ k, k < n → dy k = sdy k ∧ ∀ j, j < 484 → bk (484 * k + j) = rc k j
theorem lastB_cong {d1 d2 : Nat → Int32} {t : Int32} : ∀ {n : Nat}, (∀ k, k < n → d1 k = d2 k) → lastB d1 t n = lastB d2 t n
  | 0, _ => rfl
  | n + 1, h => by
    unfold lastB
    rw [h n (by omega), lastB_cong (fun k hk => h k (by omega))]
theorem MB.rh {n : Nat} {dy bk sdy : Nat → Int32} {rc : Nat → Nat → Int32} (m : MB n dy bk sdy rc) {t : Int32} {b : Nat} (e : lastB sdy t n = some b) : 484 * b + 484 ≤ 10164 ∧ ∀ j, j < 484 → bk (484 * b + j) = curR n sdy rc t j := by
  have hb := lastB_lt e
  refine ⟨by have := m.1; omega, fun j hj => ?_⟩
  unfold curR
  rw [e]
  exact (m.2 b hb).2 j hj

set_option maxRecDepth 100000 in
set_option maxHeartbeats 4000000 in
theorem c_has {G : GT} {h : List PE} {thr tpd tdy siz too frm knd num sgn flt plc tld now lst pfo thk are brk ipd bst : Int32} {wrd : Int64} {n : Nat} {dy bk sdy : Nat → Int32} {rc : Nat → Nat → Int32} {ct : Nat → Nat × Nat × Nat × Nat} {t : Int32} {kk : Int32} {q : Nat} (f36 : h[36]? = some (cO 12 (MO thr tpd tdy ((nI n)) siz too frm knd num sgn flt plc wrd tld now lst pfo thk are brk ipd bst))) (f38 : h[38]? = some (cI 10164 bk)) (f39 : h[39]? = some (cI 20 dy)) (hm : MB n dy bk sdy rc) (W : WFk (curR n sdy rc t) (curC n sdy ct t)) (hq : q < 4) : CT G mX12_has 2 42 [.ref 36, .int (nI q), .int kk, .int t] h (fun o => o.1 = some (.int (if kk < 0 ∨ nI (cQ (curC n sdy ct t) q) ≤ kk then 0 else 1)) ∧ o.2[36]? = some (cO 12 (MO thr tpd tdy ((nI n)) siz too frm knd num sgn flt plc wrd tld ((nowOf (lastB sdy t n))) lst pfo thk are brk ipd bst)) ∧ Sm [36] h o.2) := by
  have hlb : lastB dy t n = lastB sdy t n := lastB_cong (fun k hk => (hm.2 k hk).1)
  show X (NF G) G mX12_has 2 42 0 [(0, .ref 36), (1, .int (nI q)), (2, .int kk), (3, .int t)] [] h _
  refine x_aload_n dX12_has_0 0 rfl ?_
  refine x_iload_n dX12_has_1 3 rfl ?_
  refine x_callV (rf' := 1) (rl' := 20) [.int t] [] dX12_has_2 vX12_214 Y_X12_isBooked f36 (by decide) rfl rfl (Nat.le_of_ble_eq_true rfl) (Nat.le_of_ble_eq_true rfl) (by decide) (by decide) (c_isBooked f36 f39 hm.1) (fun r h1 e1 => ?_)
  obtain ⟨e0, g36, sm1⟩ := e1
  cases e0
  rw [hlb] at g36 ⊢
  have g38 := sm1.at f38 (by decide)
  cases hl : lastB sdy t n with
  | none =>
    rw [if_pos rfl]
    refine x_if_eq (tgt := 25) dX12_has_5 (by decide) (fun c_5 => ?_) (fun c_5 => absurd (by decide) c_5)
    refine x_iconst (v := 0) dX12_has_25 (by decide) ?_
    exact x_zret dX12_has_26 rfl rfl ⟨by rw [if_pos (show kk < 0 ∨ nI (cQ (curC n sdy ct t) q) ≤ kk by rw [show cQ (curC n sdy ct t) q = 0 by (unfold curC; rw [hl]; unfold cQ; split <;> rfl)]; exact Int32.lt_or_le kk 0)], by rw [hl] at g36; exact g36, sm1⟩
  | some b =>
    rw [hl] at g36
    rw [if_neg (by simp)]
    have RH := hm.rh hl
    have g36 : h1[36]? = some (cO 12 (MO thr tpd tdy ((nI n)) siz too frm knd num sgn flt plc wrd tld ((nI (484 * b))) lst pfo thk are brk ipd bst)) := g36
    refine x_if_eq (tgt := 25) dX12_has_5 (by decide) (fun c_5 => absurd c_5 (by decide)) (fun c_5 => ?_)
    refine x_iload_n dX12_has_8 2 rfl ?_
    refine x_if_lt (tgt := 25) dX12_has_9 (by decide) (fun c_9 => ?_) (fun c_9 => ?_)
    · refine x_iconst (v := 0) dX12_has_25 (by decide) ?_
      exact x_zret dX12_has_26 rfl rfl ⟨by rw [if_pos (Or.inl c_9)], g36, sm1⟩
    · refine x_iload_n dX12_has_12 2 rfl ?_
      refine x_aload_n dX12_has_13 0 rfl ?_
      refine x_iload_n dX12_has_14 1 rfl ?_
      refine x_callV (rf' := 0) (rl' := 0) [.int (nI q)] [.int kk] dX12_has_15 vX12_217 Y_X12_of g36 (by decide) rfl rfl (Nat.le_of_ble_eq_true rfl) (Nat.le_of_ble_eq_true rfl) (by decide) (by decide) (c_ofR g36 g38 RH (by omega)) (fun _ _ e5 => ?_)
      cases e5
      rw [(cQ_rec W hq).1]
      refine x_icmp_ge (tgt := 25) dX12_has_18 (by decide) (fun c_18 => ?_) (fun c_18 => ?_)
      · refine x_iconst (v := 0) dX12_has_25 (by decide) ?_
        exact x_zret dX12_has_26 rfl rfl ⟨by rw [if_pos (Or.inr c_18)], g36, sm1⟩
      · refine x_iconst (v := 1) dX12_has_21 (by decide) ?_
        refine x_goto (tgt := 26) dX12_has_22 (by decide) ?_
        exact x_zret dX12_has_26 rfl rfl ⟨by rw [if_neg (fun q => q.elim c_9 c_18)], g36, sm1⟩

theorem b5 (x : Int32) : (x < 0 ∨ (5 : Int32) < x) ↔ bS x := by
  have h1 : (5 : Int32) < x ↔ (6 : Int32) ≤ x := by
    rw [Int32.lt_iff_toInt_lt, Int32.le_iff_toInt_le]
    have e1 : (5 : Int32).toInt = 5 := rfl
    have e2 : (6 : Int32).toInt = 6 := rfl
    omega
  rw [h1]

set_option maxRecDepth 100000 in
set_option maxHeartbeats 4000000 in
theorem c_isDropped {G : GT} {h : List PE} {thr tpd tdy siz too frm knd num sgn flt plc tld now lst pfo thk are brk ipd bst : Int32} {wrd : Int64} {n : Nat} {dy bk sdy : Nat → Int32} {rc : Nat → Nat → Int32} {ct : Nat → Nat × Nat × Nat × Nat} {t : Int32} {th sd hh : Int32} (f36 : h[36]? = some (cO 12 (MO thr tpd tdy ((nI n)) siz too frm knd num sgn flt plc wrd tld now lst pfo thk are brk ipd bst))) (f38 : h[38]? = some (cI 10164 bk)) (f39 : h[39]? = some (cI 20 dy)) (hm : MB n dy bk sdy rc) (W : WFk (curR n sdy rc t) (curC n sdy ct t))  : CT G mX12_isDropped 3 65 [.ref 36, .int th, .int sd, .int hh, .int t] h (fun o => o.1 = some (.int (if bT (curC n sdy ct t) th ∨ bS sd ∨ bH hh then 0 else 1)) ∧ o.2[36]? = some (cO 12 (MO thr tpd tdy ((nI n)) siz too frm knd num sgn flt plc wrd tld ((nowOf (lastB sdy t n))) lst pfo thk are brk ipd bst)) ∧ Sm [36] h o.2) := by
  show X (NF G) G mX12_isDropped 3 65 0 [(0, .ref 36), (1, .int th), (2, .int sd), (3, .int hh), (4, .int t)] [] h _
  refine x_aload_n dX12_isDropped_0 0 rfl ?_
  refine x_iconst (v := 1) dX12_isDropped_1 (by decide) ?_
  refine x_iload_n dX12_isDropped_2 1 rfl ?_
  refine x_iload dX12_isDropped_3 4 rfl ?_
  refine x_callV (rf' := 2) (rl' := 42) [.int 1, .int th, .int t] [] dX12_isDropped_5 vX12_223 Y_X12_has f36 (by decide) rfl rfl (Nat.le_of_ble_eq_true rfl) (Nat.le_of_ble_eq_true rfl) (by decide) (by decide) (c_has (q := 1) f36 f38 f39 hm W (by decide)) (fun r h1 e1 => ?_)
  obtain ⟨e0, g36, sm1⟩ := e1
  cases e0
  rw [show cQ (curC n sdy ct t) 1 = (curC n sdy ct t).2.1 from rfl]
  by_cases hT : bT (curC n sdy ct t) th
  · rw [if_pos hT]
    refine x_if_eq (tgt := 35) dX12_isDropped_8 (by decide) (fun c_8 => ?_) (fun c_8 => absurd (by decide) c_8)
    refine x_iconst (v := 0) dX12_isDropped_35 (by decide) ?_
    exact x_zret dX12_isDropped_36 rfl rfl ⟨by rw [if_pos (Or.inl hT)], g36, sm1⟩
  · rw [if_neg hT]
    refine x_if_eq (tgt := 35) dX12_isDropped_8 (by decide) (fun c_8 => absurd c_8 (by decide)) (fun c_8 => ?_)
    refine x_iload_n dX12_isDropped_11 2 rfl ?_
    refine x_iconst (v := 0) dX12_isDropped_12 (by decide) ?_
    refine x_iconst (v := 5) dX12_isDropped_13 (by decide) ?_
    refine x_callS (rf' := 0) (rl' := 0) [.int sd, .int 0, .int 5] [] dX12_isDropped_14 vX12_65 Y_X12_isIn rfl rfl (Nat.le_of_ble_eq_true rfl) (Nat.le_of_ble_eq_true rfl) (by decide) (by decide) c_isIn (fun _ _ e2 => ?_)
    cases e2
    by_cases hS : sd < 0 ∨ (5 : Int32) < sd
    · rw [if_pos hS]
      refine x_if_eq (tgt := 35) dX12_isDropped_17 (by decide) (fun c_17 => ?_) (fun c_17 => absurd (by decide) c_17)
      refine x_iconst (v := 0) dX12_isDropped_35 (by decide) ?_
      exact x_zret dX12_isDropped_36 rfl rfl ⟨by rw [if_pos (Or.inr (Or.inl ((b5 sd).mp hS)))], g36, sm1⟩
    · rw [if_neg hS]
      refine x_if_eq (tgt := 35) dX12_isDropped_17 (by decide) (fun c_17 => absurd c_17 (by decide)) (fun c_17 => ?_)
      refine x_iload_n dX12_isDropped_20 3 rfl ?_
      refine x_iconst (v := 0) dX12_isDropped_21 (by decide) ?_
      refine x_sipush (v := 30000) dX12_isDropped_22 (by decide) ?_
      refine x_callS (rf' := 0) (rl' := 0) [.int hh, .int 0, .int 30000] [] dX12_isDropped_25 vX12_65 Y_X12_isIn rfl rfl (Nat.le_of_ble_eq_true rfl) (Nat.le_of_ble_eq_true rfl) (by decide) (by decide) c_isIn (fun _ _ e3 => ?_)
      cases e3
      by_cases hH : bH hh
      · rw [if_pos hH]
        refine x_if_eq (tgt := 35) dX12_isDropped_28 (by decide) (fun c_28 => ?_) (fun c_28 => absurd (by decide) c_28)
        refine x_iconst (v := 0) dX12_isDropped_35 (by decide) ?_
        exact x_zret dX12_isDropped_36 rfl rfl ⟨by rw [if_pos (Or.inr (Or.inr hH))], g36, sm1⟩
      · rw [if_neg hH]
        refine x_if_eq (tgt := 35) dX12_isDropped_28 (by decide) (fun c_28 => absurd c_28 (by decide)) (fun c_28 => ?_)
        refine x_iconst (v := 1) dX12_isDropped_31 (by decide) ?_
        refine x_goto (tgt := 36) dX12_isDropped_32 (by decide) ?_
        exact x_zret dX12_isDropped_36 rfl rfl ⟨by rw [if_neg (fun q => q.elim hT (fun q => q.elim (fun q => hS ((b5 sd).mpr q)) hH))], g36, sm1⟩

theorem curC_some {n : Nat} {sdy : Nat → Int32} {ct : Nat → Nat × Nat × Nat × Nat} {t : Int32} {k : Nat} (h : k < (curC n sdy ct t).2.1) : ∃ b, lastB sdy t n = some b := by
  unfold curC at h
  cases e : lastB sdy t n with
  | none => rw [e] at h; exact absurd h (Nat.not_lt_zero _)
  | some b => exact ⟨b, rfl⟩
theorem m_curve {rec : Nat → Int32} {f : Nat} (WF : WFc rec f) {kept : Int32} {cv : Nat → Int32} {sv : Nat → Int64} {la : Nat} (hla : la = PR rec f (npR rec f - 1)) (h1 : IsCu rec f (npR rec f) (PR rec f) kept (la + 1) cv) (h2 : ∀ j, j ≤ la → sv j = stoF cv j) : (∀ x, x < cnR rec f → cv x = cuR rec f kept x) ∧ ∀ x, x < cnR rec f → sv x = stR rec f kept x := by
  subst hla
  have e := cu_canon WF h1
  refine ⟨e, fun x hx => ?_⟩
  rw [h2 x (Nat.le_of_lt_succ hx), stR]
  exact stoF_cong (fun i hi => e i (Nat.lt_of_le_of_lt hi hx))

/-- the model holds the THING's PAD, its FOAM kf worn to kept -/
def MLaid (h : List PE) (rec : Nat → Int32) (k sd kf : Nat) (kept : Int32) : Prop := ∃ (cv : Nat → Int32) (sv : Nat → Int64), h[41]? = some (cI 96 cv) ∧ h[42]? = some (cJ 96 sv) ∧ (∀ x, x < cnR rec (4 + 20 * kf) → cv x = cuR rec (4 + 20 * kf) kept x) ∧ ∀ x, x < cnR rec (4 + 20 * kf) → sv x = stR rec (4 + 20 * kf) kept x

theorem c_layM {G : GT} {h : List PE} {thr tpd tdy bks siz too frm knd num sgn flt plc tld lst pfo thk are brk ipd bst : Int32} {wrd : Int64} {bk rec : Nat → Int32} {nw k sd kf : Nat} {kept : Int32} {cv : Nat → Int32} {sv : Nat → Int64} (f36 : h[36]? = some (cO 12 (MO thr tpd tdy bks siz too frm knd num sgn flt plc wrd tld ((nI nw)) lst pfo thk are brk ipd bst))) (f38 : h[38]? = some (cI 10164 bk)) (f41 : h[41]? = some (cI 96 cv)) (f42 : h[42]? = some (cJ 96 sv)) (RH : nw + 484 ≤ 10164 ∧ ∀ j, j < 484 → bk (nw + j) = rec j) (WF : WFc rec (4 + 20 * kf)) (hkf : kf < 8) : CT G mX12_lay 1 21 [.ref 36, .int (nI kf), .int kept] h (fun o => o.1 = none ∧ MLaid o.2 rec k sd kf kept ∧ o.2[36]? = some (cO 12 (MO thr tpd tdy bks siz too frm knd num sgn flt plc wrd tld ((nI nw)) ((nI (PR rec (4 + 20 * kf) (npR rec (4 + 20 * kf) - 1)))) pfo thk are brk ipd bst)) ∧ Sm [36, 41, 42] h o.2) := by
  refine (c_lay f36 f38 f41 f42 WF RH hkf rfl rfl).weaken (fun o ho => ?_)
  obtain ⟨o1, cv2, sv2, o2, o3, o4, o5, o6, o7⟩ := ho
  obtain ⟨e1, e2⟩ := m_curve WF rfl o6 o7
  exact ⟨o1, ⟨cv2, sv2, o3, o4, e1, e2⟩, o2, o5⟩

theorem c_squeezedM {G : GT} {h : List PE} {thr tpd tdy bks siz too frm knd num sgn flt plc tld pfo brk ipd bst : Int32} {wrd : Int64} {rec : Nat → Int32} {nw k sd kf : Nat} {kept : Int32} {w hh : Int64} (f36 : h[36]? = some (cO 12 (MO thr tpd tdy bks siz too frm knd num sgn flt plc wrd tld ((nI nw)) ((nI (PR rec (4 + 20 * kf) (npR rec (4 + 20 * kf) - 1)))) pfo ((rec (164 + 24 * k + 5 + 3 * sd + 1))) ((rec (164 + 24 * k + 5 + 3 * sd + 2))) brk ipd bst))) (L : MLaid h rec k sd kf kept) (WF : WFc rec (4 + 20 * kf)) : CT G mX12_squeezed 0 0 [.ref 36, .long w, .long hh, .long (thR rec (164 + 24 * k) sd), .long (arR rec (164 + 24 * k) sd)] h (fun o => o = (some (.int (sqF (stR rec (4 + 20 * kf) kept) w hh (thR rec (164 + 24 * k) sd) (arR rec (164 + 24 * k) sd) 0 (cnR rec (4 + 20 * kf)))), h)) := by
  obtain ⟨cv, sv, f41, f42, e1, e2⟩ := L
  refine (c_squeezed f36 f42 WF.2.2.2.2.2.2.1).weaken (fun o ho => ?_)
  rw [ho, sqF_cong (cnR rec (4 + 20 * kf)) 0 (fun x _ hx => e2 x (by omega))]
theorem c_holdsM {G : GT} {h : List PE} {thr tpd tdy bks siz too frm knd num sgn flt plc tld pfo brk ipd bst : Int32} {wrd : Int64} {rec : Nat → Int32} {nw k sd kf : Nat} {kept : Int32} {w hh mk : Int32} (f36 : h[36]? = some (cO 12 (MO thr tpd tdy bks siz too frm knd num sgn flt plc wrd tld ((nI nw)) ((nI (PR rec (4 + 20 * kf) (npR rec (4 + 20 * kf) - 1)))) pfo ((rec (164 + 24 * k + 5 + 3 * sd + 1))) ((rec (164 + 24 * k + 5 + 3 * sd + 2))) brk ipd bst))) (L : MLaid h rec k sd kf kept) (WF : WFc rec (4 + 20 * kf)) (hpd : pdF rec (164 + 24 * k) sd = some kf) (hw : ¬ w.toInt64 = 0) : CT G mX12_holds 1 29 [.ref 36, .int w, .int hh, .int mk] h (fun o => o = (some (.int (if HO rec (164 + 24 * k) sd kept w hh mk then 1 else 0)), h)) := by
  obtain ⟨cv, sv, f41, f42, e1, e2⟩ := L
  refine (c_holds f36 f41 f42 WF.2.2.2.2.2.2.1 hw).weaken (fun o ho => ?_)
  have e3 : HO rec (164 + 24 * k) sd kept w hh mk = hoF (stR rec (4 + 20 * kf) kept) (cuR rec (4 + 20 * kf) kept) (cnR rec (4 + 20 * kf)) (thR rec (164 + 24 * k) sd) (arR rec (164 + 24 * k) sd) w hh mk := by
    unfold HO
    rw [hpd]
  rw [ho, e3, hoF_cong (c := cnR rec (4 + 20 * kf)) (by have := cnR_le WF; omega) e2 e1]

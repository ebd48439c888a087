def s_setTn (s : ST) (n : Nat) : ST := (s.1, s.2.1, n, s.2.2.2)
def s_setTd (s : ST) (n : Nat) : ST := (s.1, n, s.2.2)
theorem sw3 (x : Int32) : x = 0 ∨ x = 1 ∨ x = 2 ∨ (x.toInt < 0 ∨ 2 < x.toInt) := by
  by_cases h0 : x.toInt < 0 ∨ 2 < x.toInt
  · exact Or.inr (Or.inr (Or.inr h0))
  · have e : x.toInt = 0 ∨ x.toInt = 1 ∨ x.toInt = 2 := by omega
    rcases e with e | e | e
    · exact Or.inl (Int32.toInt_inj.mp e)
    · exact Or.inr (Or.inl (Int32.toInt_inj.mp e))
    · exact Or.inr (Or.inr (Or.inl (Int32.toInt_inj.mp e)))
theorem sw4 (x : Int32) : x = 0 ∨ x = 1 ∨ x = 2 ∨ x = 3 ∨ (x.toInt < 0 ∨ 3 < x.toInt) := by
  by_cases h0 : x.toInt < 0 ∨ 3 < x.toInt
  · exact Or.inr (Or.inr (Or.inr (Or.inr h0)))
  · have e : x.toInt = 0 ∨ x.toInt = 1 ∨ x.toInt = 2 ∨ x.toInt = 3 := by omega
    rcases e with e | e | e | e
    · exact Or.inl (Int32.toInt_inj.mp e)
    · exact Or.inr (Or.inl (Int32.toInt_inj.mp e))
    · exact Or.inr (Or.inr (Or.inl (Int32.toInt_inj.mp e)))
    · exact Or.inr (Or.inr (Or.inr (Or.inl (Int32.toInt_inj.mp e))))
/-- the answers of the small calls -/
def spEnd (tn : Nat) (n : Int32) : Int32 := if n < 0 ∨ nI tn < n then 0 else 1
def spEndN (tn : Nat) (n : Int32) : Nat := if n < 0 ∨ nI tn < n then tn else n.toNatClampNeg
def spNext (td : Nat) (n : Int32) : Int32 := if n < 0 ∨ nI (999 - td) < n then -1 else nI (td + n.toNatClampNeg)
def spNextN (td : Nat) (n : Int32) : Nat := if n < 0 ∨ nI (999 - td) < n then td else td + n.toNatClampNeg
def spCount (td n tn : Nat) (x : Int32) : Int32 := if x = 0 then nI td else if x = 1 then nI n else if x = 2 then nI tn else -1
def spMany (c : Nat × Nat × Nat × Nat) (x : Int32) : Int32 := if x = 0 then nI c.1 else if x = 1 then nI c.2.1 else if x = 2 then nI c.2.2.1 else if x = 3 then nI c.2.2.2 else -1
def spPadAt (pk : Nat → Int32) (sd : Int32) : Int32 := if bS sd then -1 else pk sd.toNatClampNeg

set_option maxRecDepth 100000 in
set_option maxHeartbeats 4000000 in
theorem c_endB0 {G : GT} {h : List PE} {n td : Nat} {fk br : Int32} (hfa : FaR h n td fk br) {tn : Nat} {tv : Nat → Nat} (hT : TpR h tn tv) (htn : tn ≤ 640) {n0 : Int32} (hb : n0 < 0 ∨ nI tn < n0) (hj : n0 < 0) : CT G mX11_end 0 0 [.ref 3, .int n0] h (fun o => o.1 = some (.int (spEnd tn n0)) ∧ TpR o.2 (spEndN tn n0) tv ∧ Sm [4, 5] h o.2) := by
  obtain ⟨tb, f4, f5, e5⟩ := hT
  have f3 : h[3]? = some (cO 11 [.ref 4, .ref 6, .ref 15, .ref 16, .ref 21, .ref 25, .ref 32, .ref 35, .int (nI n), .int (nI td), .int fk, .int br]) := hfa
  show X (NF G) G mX11_end 0 0 0 [(0, .ref 3), (1, .int n0)] [] h _
  refine x_iload_n dX11_end_0 1 rfl ?_
  refine x_if_lt (tgt := 15) dX11_end_1 (by decide) (fun c_1 => ?_) (fun c_1 => absurd hj c_1)
  refine x_iconst (v := 0) dX11_end_15 (by decide) ?_
  exact x_zret dX11_end_16 rfl rfl ⟨by rw [spEnd, if_pos hb], by rw [spEndN, if_pos hb]; exact ⟨tb, f4, f5, e5⟩, Sm.rf⟩

set_option maxRecDepth 100000 in
set_option maxHeartbeats 4000000 in
theorem c_endB1 {G : GT} {h : List PE} {n td : Nat} {fk br : Int32} (hfa : FaR h n td fk br) {tn : Nat} {tv : Nat → Nat} (hT : TpR h tn tv) (htn : tn ≤ 640) {n0 : Int32} (hb : n0 < 0 ∨ nI tn < n0) (hj : ¬ n0 < 0) : CT G mX11_end 0 0 [.ref 3, .int n0] h (fun o => o.1 = some (.int (spEnd tn n0)) ∧ TpR o.2 (spEndN tn n0) tv ∧ Sm [4, 5] h o.2) := by
  obtain ⟨tb, f4, f5, e5⟩ := hT
  have f3 : h[3]? = some (cO 11 [.ref 4, .ref 6, .ref 15, .ref 16, .ref 21, .ref 25, .ref 32, .ref 35, .int (nI n), .int (nI td), .int fk, .int br]) := hfa
  show X (NF G) G mX11_end 0 0 0 [(0, .ref 3), (1, .int n0)] [] h _
  refine x_iload_n dX11_end_0 1 rfl ?_
  refine x_if_lt (tgt := 15) dX11_end_1 (by decide) (fun c_1 => absurd c_1 hj) (fun c_1 => ?_)
  refine x_iload_n dX11_end_4 1 rfl ?_
  refine x_aload_n dX11_end_5 0 rfl ?_
  refine x_get (v := .ref 4) dX11_end_6 fX11_10 f3 (by decide) rfl ?_
  refine x_get (v := .int (nI tn)) dX11_end_9 fX11_72 f4 (by decide) rfl ?_
  refine x_icmp_le (tgt := 17) dX11_end_12 (by decide) (fun c_12 => absurd c_12 (Int32.not_le.mpr (hb.resolve_left hj))) (fun c_12 => ?_)
  refine x_iconst (v := 0) dX11_end_15 (by decide) ?_
  exact x_zret dX11_end_16 rfl rfl ⟨by rw [spEnd, if_pos hb], by rw [spEndN, if_pos hb]; exact ⟨tb, f4, f5, e5⟩, Sm.rf⟩

set_option maxRecDepth 100000 in
set_option maxHeartbeats 4000000 in
theorem c_endG {G : GT} {h : List PE} {n td : Nat} {fk br : Int32} (hfa : FaR h n td fk br) {tn : Nat} {tv : Nat → Nat} (hT : TpR h tn tv) (htn : tn ≤ 640) {m : Nat} (hm : m ≤ tn) : CT G mX11_end 0 0 [.ref 3, .int (nI m)] h (fun o => o.1 = some (.int (spEnd tn (nI m))) ∧ TpR o.2 (spEndN tn (nI m)) tv ∧ Sm [4, 5] h o.2) := by
  obtain ⟨tb, f4, f5, e5⟩ := hT
  have f3 : h[3]? = some (cO 11 [.ref 4, .ref 6, .ref 15, .ref 16, .ref 21, .ref 25, .ref 32, .ref 35, .int (nI n), .int (nI td), .int fk, .int br]) := hfa
  have sm0 : Sm [4] h h := Sm.rf
  have hb : ¬ (nI m < 0 ∨ nI tn < nI m) := fun q => q.elim (nI_pos (by omega)) (fun q => absurd ((nI_ltI (by omega) (by omega)).mp q) (by omega))
  show X (NF G) G mX11_end 0 0 0 [(0, .ref 3), (1, .int (nI m))] [] h _
  refine x_iload_n dX11_end_0 1 rfl ?_
  refine x_if_ltN (a := m) (by omega) (tgt := 15) dX11_end_1 (by decide) ?_
  refine x_iload_n dX11_end_4 1 rfl ?_
  refine x_aload_n dX11_end_5 0 rfl ?_
  refine x_get (v := .ref 4) dX11_end_6 fX11_10 f3 (by decide) rfl ?_
  refine x_get (v := .int (nI tn)) dX11_end_9 fX11_72 f4 (by decide) rfl ?_
  refine x_icmp_leN (tgt := 17) (a := m) (b := tn) (by omega) (by omega) dX11_end_12 (by decide) (fun c_12 => ?_) (fun c_12 => absurd hm c_12)
  refine x_aload_n dX11_end_17 0 rfl ?_
  refine x_get (v := .ref 4) dX11_end_18 fX11_10 f3 (by decide) rfl ?_
  refine x_iload_n dX11_end_21 1 rfl ?_
  refine x_put (fs2 := [.ref 5, .int (nI m)]) dX11_end_22 fX11_72 (Or.inl rfl) f4 (by decide) rfl rfl (Nat.le_of_ble_eq_true rfl) rfl (fun h1 a2 e3 l4 s5 => ?_)
  have f6 := (e3 3 (by decide)).trans f3
  have sm7 := Sm.put sm0 e3 l4 s5 (by decide)
  refine x_iconst (v := 1) dX11_end_25 (by decide) ?_
  exact x_zret dX11_end_26 rfl rfl ⟨by rw [spEnd, if_neg hb], by rw [spEndN, if_neg hb, nI_clamp (by omega)]; exact ⟨tb, a2, (sm7.2.2 5 (by decide)).trans f5, fun j hj => e5 j (by omega)⟩, sm7.wide (by decide)⟩

theorem c_end {G : GT} {h : List PE} {n td : Nat} {fk br : Int32} (hfa : FaR h n td fk br) {tn : Nat} {tv : Nat → Nat} (hT : TpR h tn tv) (htn : tn ≤ 640) {n0 : Int32} : CT G mX11_end 0 0 [.ref 3, .int n0] h (fun o => o.1 = some (.int (spEnd tn n0)) ∧ TpR o.2 (spEndN tn n0) tv ∧ Sm [4, 5] h o.2) := by
  by_cases hb : n0 < 0 ∨ nI tn < n0
  · by_cases hj : n0 < 0
    · exact c_endB0 hfa hT htn hb hj
    · exact c_endB1 hfa hT htn hb hj
  · obtain ⟨m, hm, rfl⟩ := ix_le (by omega) hb
    exact c_endG hfa hT htn hm

set_option maxRecDepth 100000 in
set_option maxHeartbeats 4000000 in
theorem m_endB0 {G : GT} {h : List PE} {s : ST} (hM : MoR h s) (hW : WS s) {n0 : Int32} (hb : n0 < 0 ∨ nI (s_tn s) < n0) (hj : n0 < 0) : CT G mX12_end 0 0 [.ref 36, .int n0] h (fun o => o.1 = some (.int (spEnd (s_tn s) n0)) ∧ MoR o.2 (s_setTn s (spEndN (s_tn s) n0)) ∧ Sm [36] h o.2) := by
  obtain ⟨thr, siz, too, frm, knd, num, sgn, plc, wrd, tld, now, lst, pfo, thk, are, ipd, mt, bk, dy, nm, cv, sv, k1, k2, k3, k4, k5, k6, k7, f36, f37, f38, f39, f40, f41, f42, f43, f44, f45, f46, f47, f48, f49, r1, r2, r3⟩ := hM
  have sm0 : Sm [36] h h := Sm.rf
  show X (NF G) G mX12_end 0 0 0 [(0, .ref 36), (1, .int n0)] [] h _
  refine x_aload_n dX12_end_0 0 rfl ?_
  refine x_iconst (v := 0) dX12_end_1 (by decide) ?_
  refine x_put (fs2 := (MO 0 ((nI (s_tn s))) ((nI (s_td s))) ((nI (s_n s))) siz too frm knd num sgn ((s_fl s)) plc wrd tld now lst pfo thk are ((s_br s)) ipd ((s_bs s)))) dX12_end_2 fX12_55 (Or.inl rfl) f36 (by decide) rfl rfl (Nat.le_of_ble_eq_true rfl) rfl (fun h1 a2 e3 l4 s5 => ?_)
  have sm6 := Sm.put sm0 e3 l4 s5 (by decide)
  refine x_iload_n dX12_end_5 1 rfl ?_
  refine x_if_lt (tgt := 17) dX12_end_6 (by decide) (fun c_6 => ?_) (fun c_6 => absurd hj c_6)
  refine x_iconst (v := 0) dX12_end_17 (by decide) ?_
  exact x_zret dX12_end_18 rfl rfl ⟨by rw [spEnd, if_pos hb], by rw [spEndN, if_pos hb]; exact (moR a2 (sm6.at f37 (by decide)) (sm6.at f38 (by decide)) (sm6.at f39 (by decide)) (sm6.at f40 (by decide)) (sm6.at f41 (by decide)) (sm6.at f42 (by decide)) (sm6.at f43 (by decide)) (sm6.at f44 (by decide)) (sm6.at f45 (by decide)) (sm6.at f46 (by decide)) (sm6.at f47 (by decide)) (sm6.at f48 (by decide)) (sm6.at f49 (by decide)) r1 r2 r3), sm6⟩

set_option maxRecDepth 100000 in
set_option maxHeartbeats 4000000 in
theorem m_endB1 {G : GT} {h : List PE} {s : ST} (hM : MoR h s) (hW : WS s) {n0 : Int32} (hb : n0 < 0 ∨ nI (s_tn s) < n0) (hj : ¬ n0 < 0) : CT G mX12_end 0 0 [.ref 36, .int n0] h (fun o => o.1 = some (.int (spEnd (s_tn s) n0)) ∧ MoR o.2 (s_setTn s (spEndN (s_tn s) n0)) ∧ Sm [36] h o.2) := by
  obtain ⟨thr, siz, too, frm, knd, num, sgn, plc, wrd, tld, now, lst, pfo, thk, are, ipd, mt, bk, dy, nm, cv, sv, k1, k2, k3, k4, k5, k6, k7, f36, f37, f38, f39, f40, f41, f42, f43, f44, f45, f46, f47, f48, f49, r1, r2, r3⟩ := hM
  have sm0 : Sm [36] h h := Sm.rf
  show X (NF G) G mX12_end 0 0 0 [(0, .ref 36), (1, .int n0)] [] h _
  refine x_aload_n dX12_end_0 0 rfl ?_
  refine x_iconst (v := 0) dX12_end_1 (by decide) ?_
  refine x_put (fs2 := (MO 0 ((nI (s_tn s))) ((nI (s_td s))) ((nI (s_n s))) siz too frm knd num sgn ((s_fl s)) plc wrd tld now lst pfo thk are ((s_br s)) ipd ((s_bs s)))) dX12_end_2 fX12_55 (Or.inl rfl) f36 (by decide) rfl rfl (Nat.le_of_ble_eq_true rfl) rfl (fun h1 a2 e3 l4 s5 => ?_)
  have sm6 := Sm.put sm0 e3 l4 s5 (by decide)
  refine x_iload_n dX12_end_5 1 rfl ?_
  refine x_if_lt (tgt := 17) dX12_end_6 (by decide) (fun c_6 => absurd c_6 hj) (fun c_6 => ?_)
  refine x_iload_n dX12_end_9 1 rfl ?_
  refine x_aload_n dX12_end_10 0 rfl ?_
  refine x_get (v := .int (nI (s_tn s))) dX12_end_11 fX12_58 a2 (by decide) rfl ?_
  refine x_icmp_le (tgt := 19) dX12_end_14 (by decide) (fun c_14 => absurd c_14 (Int32.not_le.mpr (hb.resolve_left hj))) (fun c_14 => ?_)
  refine x_iconst (v := 0) dX12_end_17 (by decide) ?_
  exact x_zret dX12_end_18 rfl rfl ⟨by rw [spEnd, if_pos hb], by rw [spEndN, if_pos hb]; exact (moR a2 (sm6.at f37 (by decide)) (sm6.at f38 (by decide)) (sm6.at f39 (by decide)) (sm6.at f40 (by decide)) (sm6.at f41 (by decide)) (sm6.at f42 (by decide)) (sm6.at f43 (by decide)) (sm6.at f44 (by decide)) (sm6.at f45 (by decide)) (sm6.at f46 (by decide)) (sm6.at f47 (by decide)) (sm6.at f48 (by decide)) (sm6.at f49 (by decide)) r1 r2 r3), sm6⟩

set_option maxRecDepth 100000 in
set_option maxHeartbeats 4000000 in
theorem m_endG {G : GT} {h : List PE} {s : ST} (hM : MoR h s) (hW : WS s) {m : Nat} (hm : m ≤ s_tn s) : CT G mX12_end 0 0 [.ref 36, .int (nI m)] h (fun o => o.1 = some (.int (spEnd (s_tn s) (nI m))) ∧ MoR o.2 (s_setTn s (spEndN (s_tn s) (nI m))) ∧ Sm [36] h o.2) := by
  obtain ⟨thr, siz, too, frm, knd, num, sgn, plc, wrd, tld, now, lst, pfo, thk, are, ipd, mt, bk, dy, nm, cv, sv, k1, k2, k3, k4, k5, k6, k7, f36, f37, f38, f39, f40, f41, f42, f43, f44, f45, f46, f47, f48, f49, r1, r2, r3⟩ := hM
  have sm0 : Sm [36] h h := Sm.rf
  have htn := hW.2.2.1
  have hb : ¬ (nI m < 0 ∨ nI (s_tn s) < nI m) := fun q => q.elim (nI_pos (by omega)) (fun q => absurd ((nI_ltI (by omega) (by omega)).mp q) (by omega))
  show X (NF G) G mX12_end 0 0 0 [(0, .ref 36), (1, .int (nI m))] [] h _
  refine x_aload_n dX12_end_0 0 rfl ?_
  refine x_iconst (v := 0) dX12_end_1 (by decide) ?_
  refine x_put (fs2 := (MO 0 ((nI (s_tn s))) ((nI (s_td s))) ((nI (s_n s))) siz too frm knd num sgn ((s_fl s)) plc wrd tld now lst pfo thk are ((s_br s)) ipd ((s_bs s)))) dX12_end_2 fX12_55 (Or.inl rfl) f36 (by decide) rfl rfl (Nat.le_of_ble_eq_true rfl) rfl (fun h1 a2 e3 l4 s5 => ?_)
  have sm6 := Sm.put sm0 e3 l4 s5 (by decide)
  refine x_iload_n dX12_end_5 1 rfl ?_
  refine x_if_ltN (a := m) (by omega) (tgt := 17) dX12_end_6 (by decide) ?_
  refine x_iload_n dX12_end_9 1 rfl ?_
  refine x_aload_n dX12_end_10 0 rfl ?_
  refine x_get (v := .int (nI (s_tn s))) dX12_end_11 fX12_58 a2 (by decide) rfl ?_
  refine x_icmp_leN (tgt := 19) (a := m) (b := (s_tn s)) (by omega) (by omega) dX12_end_14 (by decide) (fun c_14 => ?_) (fun c_14 => absurd hm c_14)
  refine x_aload_n dX12_end_19 0 rfl ?_
  refine x_iload_n dX12_end_20 1 rfl ?_
  refine x_put (fs2 := (MO 0 ((nI m)) ((nI (s_td s))) ((nI (s_n s))) siz too frm knd num sgn ((s_fl s)) plc wrd tld now lst pfo thk are ((s_br s)) ipd ((s_bs s)))) dX12_end_21 fX12_58 (Or.inl rfl) a2 (by decide) rfl rfl (Nat.le_of_ble_eq_true rfl) rfl (fun h7 a8 e9 l10 s11 => ?_)
  have sm12 := Sm.put sm6 e9 l10 s11 (by decide)
  refine x_iconst (v := 1) dX12_end_24 (by decide) ?_
  exact x_zret dX12_end_25 rfl rfl ⟨by rw [spEnd, if_neg hb], by rw [spEndN, if_neg hb, nI_clamp (by omega)]; exact moR (s := s_setTn s m) a8 (sm12.at f37 (by decide)) (sm12.at f38 (by decide)) (sm12.at f39 (by decide)) (sm12.at f40 (by decide)) (sm12.at f41 (by decide)) (sm12.at f42 (by decide)) (sm12.at f43 (by decide)) (sm12.at f44 (by decide)) (sm12.at f45 (by decide)) (sm12.at f46 (by decide)) (sm12.at f47 (by decide)) (sm12.at f48 (by decide)) (sm12.at f49 (by decide)) (fun j hj => r1 j (Nat.lt_of_lt_of_le hj hm)) r2 r3, sm12⟩

theorem m_end {G : GT} {h : List PE} {s : ST} (hM : MoR h s) (hW : WS s) {n0 : Int32} : CT G mX12_end 0 0 [.ref 36, .int n0] h (fun o => o.1 = some (.int (spEnd (s_tn s) n0)) ∧ MoR o.2 (s_setTn s (spEndN (s_tn s) n0)) ∧ Sm [36] h o.2) := by
  have htn := hW.2.2.1
  by_cases hb : n0 < 0 ∨ nI (s_tn s) < n0
  · by_cases hj : n0 < 0
    · exact m_endB0 hM hW hb hj
    · exact m_endB1 hM hW hb hj
  · obtain ⟨m, hm, rfl⟩ := ix_le (by omega) hb
    exact m_endG hM hW hm

set_option maxRecDepth 100000 in
set_option maxHeartbeats 4000000 in
theorem c_nextB0 {G : GT} {h : List PE} {n td : Nat} {fk br : Int32} (hfa : FaR h n td fk br) (htd : td ≤ 999) {n0 : Int32} (hb : n0 < 0 ∨ nI (999 - td) < n0) (hj : n0 < 0) : CT G mX11_next 0 0 [.ref 3, .int n0] h (fun o => o.1 = some (.int (spNext td n0)) ∧ FaR o.2 n (spNextN td n0) fk br ∧ Sm [3] h o.2) := by
  have f3 : h[3]? = some (cO 11 [.ref 4, .ref 6, .ref 15, .ref 16, .ref 21, .ref 25, .ref 32, .ref 35, .int (nI n), .int (nI td), .int fk, .int br]) := hfa
  show X (NF G) G mX11_next 0 0 0 [(0, .ref 3), (1, .int n0)] [] h _
  refine x_iload_n dX11_next_0 1 rfl ?_
  refine x_if_lt (tgt := 16) dX11_next_1 (by decide) (fun c_1 => ?_) (fun c_1 => absurd hj c_1)
  refine x_iconst (v := (-1)) dX11_next_16 (by decide) ?_
  exact x_iret dX11_next_17 rfl ⟨by rw [spNext, if_pos hb], by rw [spNextN, if_pos hb]; exact f3, Sm.rf⟩

set_option maxRecDepth 100000 in
set_option maxHeartbeats 4000000 in
theorem c_nextB1 {G : GT} {h : List PE} {n td : Nat} {fk br : Int32} (hfa : FaR h n td fk br) (htd : td ≤ 999) {n0 : Int32} (hb : n0 < 0 ∨ nI (999 - td) < n0) (hj : ¬ n0 < 0) : CT G mX11_next 0 0 [.ref 3, .int n0] h (fun o => o.1 = some (.int (spNext td n0)) ∧ FaR o.2 n (spNextN td n0) fk br ∧ Sm [3] h o.2) := by
  have f3 : h[3]? = some (cO 11 [.ref 4, .ref 6, .ref 15, .ref 16, .ref 21, .ref 25, .ref 32, .ref 35, .int (nI n), .int (nI td), .int fk, .int br]) := hfa
  show X (NF G) G mX11_next 0 0 0 [(0, .ref 3), (1, .int n0)] [] h _
  refine x_iload_n dX11_next_0 1 rfl ?_
  refine x_if_lt (tgt := 16) dX11_next_1 (by decide) (fun c_1 => absurd c_1 hj) (fun c_1 => ?_)
  refine x_iload_n dX11_next_4 1 rfl ?_
  refine x_sipush (v := 999) dX11_next_5 (by decide) ?_
  refine x_aload_n dX11_next_8 0 rfl ?_
  refine x_get (v := .int (nI td)) dX11_next_9 fX11_63 f3 (by decide) rfl ?_
  refine x_isubN (a := 999) (b := td) (by omega) dX11_next_12 ?_
  refine x_icmp_le (tgt := 18) dX11_next_13 (by decide) (fun c_13 => absurd c_13 (Int32.not_le.mpr (hb.resolve_left hj))) (fun c_13 => ?_)
  refine x_iconst (v := (-1)) dX11_next_16 (by decide) ?_
  exact x_iret dX11_next_17 rfl ⟨by rw [spNext, if_pos hb], by rw [spNextN, if_pos hb]; exact f3, Sm.rf⟩

set_option maxRecDepth 100000 in
set_option maxHeartbeats 4000000 in
theorem c_nextG {G : GT} {h : List PE} {n td : Nat} {fk br : Int32} (hfa : FaR h n td fk br) (htd : td ≤ 999) {m : Nat} (hm : m ≤ 999 - td) : CT G mX11_next 0 0 [.ref 3, .int (nI m)] h (fun o => o.1 = some (.int (spNext td (nI m))) ∧ FaR o.2 n (spNextN td (nI m)) fk br ∧ Sm [3] h o.2) := by
  have f3 : h[3]? = some (cO 11 [.ref 4, .ref 6, .ref 15, .ref 16, .ref 21, .ref 25, .ref 32, .ref 35, .int (nI n), .int (nI td), .int fk, .int br]) := hfa
  have sm0 : Sm [3] h h := Sm.rf
  have hb : ¬ (nI m < 0 ∨ nI (999 - td) < nI m) := fun q => q.elim (nI_pos (by omega)) (fun q => absurd ((nI_ltI (by omega) (by omega)).mp q) (by omega))
  show X (NF G) G mX11_next 0 0 0 [(0, .ref 3), (1, .int (nI m))] [] h _
  refine x_iload_n dX11_next_0 1 rfl ?_
  refine x_if_ltN (a := m) (by omega) (tgt := 16) dX11_next_1 (by decide) ?_
  refine x_iload_n dX11_next_4 1 rfl ?_
  refine x_sipush (v := 999) dX11_next_5 (by decide) ?_
  refine x_aload_n dX11_next_8 0 rfl ?_
  refine x_get (v := .int (nI td)) dX11_next_9 fX11_63 f3 (by decide) rfl ?_
  refine x_isubN (a := 999) (b := td) (by omega) dX11_next_12 ?_
  refine x_icmp_leN (tgt := 18) (a := m) (b := (999 - td)) (by omega) (by omega) dX11_next_13 (by decide) (fun c_13 => ?_) (fun c_13 => absurd hm c_13)
  refine x_aload_n dX11_next_18 0 rfl ?_
  refine x_dup dX11_next_19 rfl ?_
  refine x_get (v := .int (nI td)) dX11_next_20 fX11_63 f3 (by decide) rfl ?_
  refine x_iload_n dX11_next_23 1 rfl ?_
  refine x_iaddN (a := td) (b := m) dX11_next_24 ?_
  refine x_put (fs2 := [.ref 4, .ref 6, .ref 15, .ref 16, .ref 21, .ref 25, .ref 32, .ref 35, .int (nI n), .int (nI (td + m)), .int fk, .int br]) dX11_next_25 fX11_63 (Or.inl rfl) f3 (by decide) rfl rfl (Nat.le_of_ble_eq_true rfl) rfl (fun h1 a2 e3 l4 s5 => ?_)
  have sm6 := Sm.put sm0 e3 l4 s5 (by decide)
  refine x_aload_n dX11_next_28 0 rfl ?_
  refine x_get (v := .int (nI (td + m))) dX11_next_29 fX11_63 a2 (by decide) rfl ?_
  exact x_iret dX11_next_32 rfl ⟨by rw [spNext, if_neg hb, nI_clamp (by omega)], by rw [spNextN, if_neg hb, nI_clamp (by omega)]; exact a2, sm6⟩

theorem c_next {G : GT} {h : List PE} {n td : Nat} {fk br : Int32} (hfa : FaR h n td fk br) (htd : td ≤ 999) {n0 : Int32} : CT G mX11_next 0 0 [.ref 3, .int n0] h (fun o => o.1 = some (.int (spNext td n0)) ∧ FaR o.2 n (spNextN td n0) fk br ∧ Sm [3] h o.2) := by
  by_cases hb : n0 < 0 ∨ nI (999 - td) < n0
  · by_cases hj : n0 < 0
    · exact c_nextB0 hfa htd hb hj
    · exact c_nextB1 hfa htd hb hj
  · obtain ⟨m, hm, rfl⟩ := ix_le (by omega) hb
    exact c_nextG hfa htd hm

set_option maxRecDepth 100000 in
set_option maxHeartbeats 4000000 in
theorem m_nextB {G : GT} {h : List PE} {s : ST} (hM : MoR h s) (hW : WS s) {n0 : Int32} (hb : n0 < 0 ∨ nI (999 - s_td s) < n0) (hi : n0 < 0 ∨ (999 : Int32) < n0) : CT G mX12_next 1 22 [.ref 36, .int n0] h (fun o => o.1 = some (.int (spNext (s_td s) n0)) ∧ MoR o.2 (s_setTd s (spNextN (s_td s) n0)) ∧ Sm [36] h o.2) := by
  obtain ⟨thr, siz, too, frm, knd, num, sgn, plc, wrd, tld, now, lst, pfo, thk, are, ipd, mt, bk, dy, nm, cv, sv, k1, k2, k3, k4, k5, k6, k7, f36, f37, f38, f39, f40, f41, f42, f43, f44, f45, f46, f47, f48, f49, r1, r2, r3⟩ := hM
  have sm0 : Sm [36] h h := Sm.rf
  show X (NF G) G mX12_next 1 22 0 [(0, .ref 36), (1, .int n0)] [] h _
  refine x_aload_n dX12_next_0 0 rfl ?_
  refine x_iconst (v := 0) dX12_next_1 (by decide) ?_
  refine x_put (fs2 := (MO 0 ((nI (s_tn s))) ((nI (s_td s))) ((nI (s_n s))) siz too frm knd num sgn ((s_fl s)) plc wrd tld now lst pfo thk are ((s_br s)) ipd ((s_bs s)))) dX12_next_2 fX12_55 (Or.inl rfl) f36 (by decide) rfl rfl (Nat.le_of_ble_eq_true rfl) rfl (fun h1 a2 e3 l4 s5 => ?_)
  have sm6 := Sm.put sm0 e3 l4 s5 (by decide)
  refine x_iload_n dX12_next_5 1 rfl ?_
  refine x_iconst (v := 0) dX12_next_6 (by decide) ?_
  refine x_sipush (v := 999) dX12_next_7 (by decide) ?_
  refine x_callS (rf' := 0) (rl' := 0) [.int n0, .int 0, .int 999] [] dX12_next_10 vX12_65 Y_X12_isIn rfl rfl (Nat.le_of_ble_eq_true rfl) (Nat.le_of_ble_eq_true rfl) (by decide) (by decide) c_isIn (fun _ _ e1 => ?_)
  cases e1
  rw [if_pos hi]
  refine x_if_eq (tgt := 28) dX12_next_13 (by decide) (fun c_13 => ?_) (fun c_13 => absurd (by decide) c_13)
  refine x_iconst (v := (-1)) dX12_next_28 (by decide) ?_
  exact x_iret dX12_next_29 rfl ⟨by rw [spNext, if_pos hb], by rw [spNextN, if_pos hb]; exact (moR a2 (sm6.at f37 (by decide)) (sm6.at f38 (by decide)) (sm6.at f39 (by decide)) (sm6.at f40 (by decide)) (sm6.at f41 (by decide)) (sm6.at f42 (by decide)) (sm6.at f43 (by decide)) (sm6.at f44 (by decide)) (sm6.at f45 (by decide)) (sm6.at f46 (by decide)) (sm6.at f47 (by decide)) (sm6.at f48 (by decide)) (sm6.at f49 (by decide)) r1 r2 r3), sm6⟩

set_option maxRecDepth 100000 in
set_option maxHeartbeats 4000000 in
theorem m_nextC {G : GT} {h : List PE} {s : ST} (hM : MoR h s) (hW : WS s) {m : Nat} (hm : ¬ m ≤ 999 - s_td s) (h9 : m ≤ 999) : CT G mX12_next 1 22 [.ref 36, .int (nI m)] h (fun o => o.1 = some (.int (spNext (s_td s) (nI m))) ∧ MoR o.2 (s_setTd s (spNextN (s_td s) (nI m))) ∧ Sm [36] h o.2) := by
  obtain ⟨thr, siz, too, frm, knd, num, sgn, plc, wrd, tld, now, lst, pfo, thk, are, ipd, mt, bk, dy, nm, cv, sv, k1, k2, k3, k4, k5, k6, k7, f36, f37, f38, f39, f40, f41, f42, f43, f44, f45, f46, f47, f48, f49, r1, r2, r3⟩ := hM
  have sm0 : Sm [36] h h := Sm.rf
  have htd := hW.2.1
  have hi : ¬ (nI m < 0 ∨ (999 : Int32) < nI m) := fun q => q.elim (nI_pos (by omega)) (fun q => absurd ((nI_ltI (a := 999) (by decide) (by omega)).mp q) (by omega))
  have hb : nI m < 0 ∨ nI (999 - s_td s) < nI m := Or.inr ((nI_ltI (by omega) (by omega)).mpr (by omega))
  show X (NF G) G mX12_next 1 22 0 [(0, .ref 36), (1, .int (nI m))] [] h _
  refine x_aload_n dX12_next_0 0 rfl ?_
  refine x_iconst (v := 0) dX12_next_1 (by decide) ?_
  refine x_put (fs2 := (MO 0 ((nI (s_tn s))) ((nI (s_td s))) ((nI (s_n s))) siz too frm knd num sgn ((s_fl s)) plc wrd tld now lst pfo thk are ((s_br s)) ipd ((s_bs s)))) dX12_next_2 fX12_55 (Or.inl rfl) f36 (by decide) rfl rfl (Nat.le_of_ble_eq_true rfl) rfl (fun h1 a2 e3 l4 s5 => ?_)
  have sm6 := Sm.put sm0 e3 l4 s5 (by decide)
  refine x_iload_n dX12_next_5 1 rfl ?_
  refine x_iconst (v := 0) dX12_next_6 (by decide) ?_
  refine x_sipush (v := 999) dX12_next_7 (by decide) ?_
  refine x_callS (rf' := 0) (rl' := 0) [.int (nI m), .int 0, .int 999] [] dX12_next_10 vX12_65 Y_X12_isIn rfl rfl (Nat.le_of_ble_eq_true rfl) (Nat.le_of_ble_eq_true rfl) (by decide) (by decide) c_isIn (fun _ _ e1 => ?_)
  cases e1
  rw [if_neg hi]
  refine x_if_eq (tgt := 28) dX12_next_13 (by decide) (fun c_13 => absurd c_13 (by decide)) (fun c_13 => ?_)
  refine x_aload_n dX12_next_16 0 rfl ?_
  refine x_get (v := .int (nI (s_td s))) dX12_next_17 fX12_69 a2 (by decide) rfl ?_
  refine x_iload_n dX12_next_20 1 rfl ?_
  refine x_iaddN (a := (s_td s)) (b := m) dX12_next_21 ?_
  refine x_sipush (v := 999) dX12_next_22 (by decide) ?_
  refine x_icmp_leN (tgt := 30) (a := ((s_td s) + m)) (b := 999) (by omega) (by omega) dX12_next_25 (by decide) (fun c_25 => absurd c_25 (by omega)) (fun c_25 => ?_)
  refine x_iconst (v := (-1)) dX12_next_28 (by decide) ?_
  exact x_iret dX12_next_29 rfl ⟨by rw [spNext, if_pos hb], by rw [spNextN, if_pos hb]; exact (moR a2 (sm6.at f37 (by decide)) (sm6.at f38 (by decide)) (sm6.at f39 (by decide)) (sm6.at f40 (by decide)) (sm6.at f41 (by decide)) (sm6.at f42 (by decide)) (sm6.at f43 (by decide)) (sm6.at f44 (by decide)) (sm6.at f45 (by decide)) (sm6.at f46 (by decide)) (sm6.at f47 (by decide)) (sm6.at f48 (by decide)) (sm6.at f49 (by decide)) r1 r2 r3), sm6⟩

set_option maxRecDepth 100000 in
set_option maxHeartbeats 4000000 in
theorem m_nextG {G : GT} {h : List PE} {s : ST} (hM : MoR h s) (hW : WS s) {m : Nat} (hm : m ≤ 999 - s_td s) : CT G mX12_next 1 22 [.ref 36, .int (nI m)] h (fun o => o.1 = some (.int (spNext (s_td s) (nI m))) ∧ MoR o.2 (s_setTd s (spNextN (s_td s) (nI m))) ∧ Sm [36] h o.2) := by
  obtain ⟨thr, siz, too, frm, knd, num, sgn, plc, wrd, tld, now, lst, pfo, thk, are, ipd, mt, bk, dy, nm, cv, sv, k1, k2, k3, k4, k5, k6, k7, f36, f37, f38, f39, f40, f41, f42, f43, f44, f45, f46, f47, f48, f49, r1, r2, r3⟩ := hM
  have sm0 : Sm [36] h h := Sm.rf
  have htd := hW.2.1
  have hi : ¬ (nI m < 0 ∨ (999 : Int32) < nI m) := fun q => q.elim (nI_pos (by omega)) (fun q => absurd ((nI_ltI (a := 999) (by decide) (by omega)).mp q) (by omega))
  have hb : ¬ (nI m < 0 ∨ nI (999 - s_td s) < nI m) := fun q => q.elim (nI_pos (by omega)) (fun q => absurd ((nI_ltI (by omega) (by omega)).mp q) (by omega))
  show X (NF G) G mX12_next 1 22 0 [(0, .ref 36), (1, .int (nI m))] [] h _
  refine x_aload_n dX12_next_0 0 rfl ?_
  refine x_iconst (v := 0) dX12_next_1 (by decide) ?_
  refine x_put (fs2 := (MO 0 ((nI (s_tn s))) ((nI (s_td s))) ((nI (s_n s))) siz too frm knd num sgn ((s_fl s)) plc wrd tld now lst pfo thk are ((s_br s)) ipd ((s_bs s)))) dX12_next_2 fX12_55 (Or.inl rfl) f36 (by decide) rfl rfl (Nat.le_of_ble_eq_true rfl) rfl (fun h1 a2 e3 l4 s5 => ?_)
  have sm6 := Sm.put sm0 e3 l4 s5 (by decide)
  refine x_iload_n dX12_next_5 1 rfl ?_
  refine x_iconst (v := 0) dX12_next_6 (by decide) ?_
  refine x_sipush (v := 999) dX12_next_7 (by decide) ?_
  refine x_callS (rf' := 0) (rl' := 0) [.int (nI m), .int 0, .int 999] [] dX12_next_10 vX12_65 Y_X12_isIn rfl rfl (Nat.le_of_ble_eq_true rfl) (Nat.le_of_ble_eq_true rfl) (by decide) (by decide) c_isIn (fun _ _ e1 => ?_)
  cases e1
  rw [if_neg hi]
  refine x_if_eq (tgt := 28) dX12_next_13 (by decide) (fun c_13 => absurd c_13 (by decide)) (fun c_13 => ?_)
  refine x_aload_n dX12_next_16 0 rfl ?_
  refine x_get (v := .int (nI (s_td s))) dX12_next_17 fX12_69 a2 (by decide) rfl ?_
  refine x_iload_n dX12_next_20 1 rfl ?_
  refine x_iaddN (a := (s_td s)) (b := m) dX12_next_21 ?_
  refine x_sipush (v := 999) dX12_next_22 (by decide) ?_
  refine x_icmp_leN (tgt := 30) (a := ((s_td s) + m)) (b := 999) (by omega) (by omega) dX12_next_25 (by decide) (fun c_25 => ?_) (fun c_25 => absurd (by omega) c_25)
  refine x_aload_n dX12_next_30 0 rfl ?_
  refine x_dup dX12_next_31 rfl ?_
  refine x_get (v := .int (nI (s_td s))) dX12_next_32 fX12_69 a2 (by decide) rfl ?_
  refine x_iload_n dX12_next_35 1 rfl ?_
  refine x_iaddN (a := (s_td s)) (b := m) dX12_next_36 ?_
  refine x_put (fs2 := (MO 0 ((nI (s_tn s))) ((nI ((s_td s) + m))) ((nI (s_n s))) siz too frm knd num sgn ((s_fl s)) plc wrd tld now lst pfo thk are ((s_br s)) ipd ((s_bs s)))) dX12_next_37 fX12_69 (Or.inl rfl) a2 (by decide) rfl rfl (Nat.le_of_ble_eq_true rfl) rfl (fun h7 a8 e9 l10 s11 => ?_)
  have sm12 := Sm.put sm6 e9 l10 s11 (by decide)
  refine x_aload_n dX12_next_40 0 rfl ?_
  refine x_get (v := .int (nI ((s_td s) + m))) dX12_next_41 fX12_69 a8 (by decide) rfl ?_
  exact x_iret dX12_next_44 rfl ⟨by rw [spNext, if_neg hb, nI_clamp (by omega)], by rw [spNextN, if_neg hb, nI_clamp (by omega)]; exact moR (s := s_setTd s (s_td s + m)) a8 (sm12.at f37 (by decide)) (sm12.at f38 (by decide)) (sm12.at f39 (by decide)) (sm12.at f40 (by decide)) (sm12.at f41 (by decide)) (sm12.at f42 (by decide)) (sm12.at f43 (by decide)) (sm12.at f44 (by decide)) (sm12.at f45 (by decide)) (sm12.at f46 (by decide)) (sm12.at f47 (by decide)) (sm12.at f48 (by decide)) (sm12.at f49 (by decide)) r1 r2 r3, sm12⟩

theorem m_next {G : GT} {h : List PE} {s : ST} (hM : MoR h s) (hW : WS s) {n0 : Int32} : CT G mX12_next 1 22 [.ref 36, .int n0] h (fun o => o.1 = some (.int (spNext (s_td s) n0)) ∧ MoR o.2 (s_setTd s (spNextN (s_td s) n0)) ∧ Sm [36] h o.2) := by
  have htd := hW.2.1
  by_cases hi : n0 < 0 ∨ (999 : Int32) < n0
  · refine m_nextB hM hW ?_ hi
    rcases hi with q | q
    · exact Or.inl q
    · refine Or.inr ?_
      rw [Int32.lt_iff_toInt_lt, nI_toInt (by omega)]
      rw [Int32.lt_iff_toInt_lt] at q
      have e : (999 : Int32).toInt = 999 := rfl
      omega
  · obtain ⟨m, hm, rfl⟩ := ix_le (m := 999) (by decide) hi
    by_cases h2 : m ≤ 999 - s_td s
    · exact m_nextG hM hW h2
    · exact m_nextC hM hW h2 hm

set_option maxRecDepth 100000 in
set_option maxHeartbeats 4000000 in
theorem c_fault {G : GT} {h : List PE} {n td : Nat} {fk br : Int32} (hfa : FaR h n td fk br)  : CT G mX11_fault 0 0 [.ref 3] h (fun o => o = (some (.int fk), h)) := by
  have f3 : h[3]? = some (cO 11 [.ref 4, .ref 6, .ref 15, .ref 16, .ref 21, .ref 25, .ref 32, .ref 35, .int (nI n), .int (nI td), .int fk, .int br]) := hfa
  show X (NF G) G mX11_fault 0 0 0 [(0, .ref 3)] [] h _
  refine x_aload_n dX11_fault_0 0 rfl ?_
  refine x_get (v := .int fk) dX11_fault_1 fX11_66 f3 (by decide) rfl ?_
  exact x_iret dX11_fault_4 rfl rfl

set_option maxRecDepth 100000 in
set_option maxHeartbeats 4000000 in
theorem c_breaksAt {G : GT} {h : List PE} {n td : Nat} {fk br : Int32} (hfa : FaR h n td fk br)  : CT G mX11_breaksAt 0 0 [.ref 3] h (fun o => o = (some (.int br), h)) := by
  have f3 : h[3]? = some (cO 11 [.ref 4, .ref 6, .ref 15, .ref 16, .ref 21, .ref 25, .ref 32, .ref 35, .int (nI n), .int (nI td), .int fk, .int br]) := hfa
  show X (NF G) G mX11_breaksAt 0 0 0 [(0, .ref 3)] [] h _
  refine x_aload_n dX11_breaksAt_0 0 rfl ?_
  refine x_get (v := .int br) dX11_breaksAt_1 fX11_69 f3 (by decide) rfl ?_
  exact x_iret dX11_breaksAt_4 rfl rfl

set_option maxRecDepth 100000 in
set_option maxHeartbeats 4000000 in
theorem c_boxSet {G : GT} {h : List PE} {n td : Nat} {fk br : Int32} (hfa : FaR h n td fk br) {bs : Int32} (hB : BxR h bs) : CT G mX11_boxSet 0 0 [.ref 3] h (fun o => o = (some (.int bs), h)) := by
  have f3 : h[3]? = some (cO 11 [.ref 4, .ref 6, .ref 15, .ref 16, .ref 21, .ref 25, .ref 32, .ref 35, .int (nI n), .int (nI td), .int fk, .int br]) := hfa
  obtain ⟨tc, bc, z1, z2, f32, f33, f34⟩ := hB
  show X (NF G) G mX11_boxSet 0 0 0 [(0, .ref 3)] [] h _
  refine x_aload_n dX11_boxSet_0 0 rfl ?_
  refine x_get (v := .ref 32) dX11_boxSet_1 fX11_51 f3 (by decide) rfl ?_
  refine x_get (v := .int bs) dX11_boxSet_4 fX11_225 f32 (by decide) rfl ?_
  exact x_iret dX11_boxSet_7 rfl rfl

set_option maxRecDepth 100000 in
set_option maxHeartbeats 4000000 in
theorem m_fault {G : GT} {h : List PE} {s : ST} (hM : MoR h s) : CT G mX12_fault 0 0 [.ref 36] h (fun o => o.1 = some (.int (s_fl s)) ∧ MoR o.2 s ∧ Sm [36] h o.2) := by
  obtain ⟨thr, siz, too, frm, knd, num, sgn, plc, wrd, tld, now, lst, pfo, thk, are, ipd, mt, bk, dy, nm, cv, sv, k1, k2, k3, k4, k5, k6, k7, f36, f37, f38, f39, f40, f41, f42, f43, f44, f45, f46, f47, f48, f49, r1, r2, r3⟩ := hM
  have sm0 : Sm [36] h h := Sm.rf
  show X (NF G) G mX12_fault 0 0 0 [(0, .ref 36)] [] h _
  refine x_aload_n dX12_fault_0 0 rfl ?_
  refine x_iconst (v := 0) dX12_fault_1 (by decide) ?_
  refine x_put (fs2 := (MO 0 ((nI (s_tn s))) ((nI (s_td s))) ((nI (s_n s))) siz too frm knd num sgn ((s_fl s)) plc wrd tld now lst pfo thk are ((s_br s)) ipd ((s_bs s)))) dX12_fault_2 fX12_55 (Or.inl rfl) f36 (by decide) rfl rfl (Nat.le_of_ble_eq_true rfl) rfl (fun h1 a2 e3 l4 s5 => ?_)
  have sm6 := Sm.put sm0 e3 l4 s5 (by decide)
  refine x_aload_n dX12_fault_5 0 rfl ?_
  refine x_get (v := .int (s_fl s)) dX12_fault_6 fX12_139 a2 (by decide) rfl ?_
  exact x_iret dX12_fault_9 rfl ⟨rfl, (moR a2 (sm6.at f37 (by decide)) (sm6.at f38 (by decide)) (sm6.at f39 (by decide)) (sm6.at f40 (by decide)) (sm6.at f41 (by decide)) (sm6.at f42 (by decide)) (sm6.at f43 (by decide)) (sm6.at f44 (by decide)) (sm6.at f45 (by decide)) (sm6.at f46 (by decide)) (sm6.at f47 (by decide)) (sm6.at f48 (by decide)) (sm6.at f49 (by decide)) r1 r2 r3), sm6⟩

set_option maxRecDepth 100000 in
set_option maxHeartbeats 4000000 in
theorem m_breaksAt {G : GT} {h : List PE} {s : ST} (hM : MoR h s) : CT G mX12_breaksAt 0 0 [.ref 36] h (fun o => o.1 = some (.int (s_br s)) ∧ MoR o.2 s ∧ Sm [36] h o.2) := by
  obtain ⟨thr, siz, too, frm, knd, num, sgn, plc, wrd, tld, now, lst, pfo, thk, are, ipd, mt, bk, dy, nm, cv, sv, k1, k2, k3, k4, k5, k6, k7, f36, f37, f38, f39, f40, f41, f42, f43, f44, f45, f46, f47, f48, f49, r1, r2, r3⟩ := hM
  have sm0 : Sm [36] h h := Sm.rf
  show X (NF G) G mX12_breaksAt 0 0 0 [(0, .ref 36)] [] h _
  refine x_aload_n dX12_breaksAt_0 0 rfl ?_
  refine x_iconst (v := 0) dX12_breaksAt_1 (by decide) ?_
  refine x_put (fs2 := (MO 0 ((nI (s_tn s))) ((nI (s_td s))) ((nI (s_n s))) siz too frm knd num sgn ((s_fl s)) plc wrd tld now lst pfo thk are ((s_br s)) ipd ((s_bs s)))) dX12_breaksAt_2 fX12_55 (Or.inl rfl) f36 (by decide) rfl rfl (Nat.le_of_ble_eq_true rfl) rfl (fun h1 a2 e3 l4 s5 => ?_)
  have sm6 := Sm.put sm0 e3 l4 s5 (by decide)
  refine x_aload_n dX12_breaksAt_5 0 rfl ?_
  refine x_get (v := .int (s_br s)) dX12_breaksAt_6 fX12_29 a2 (by decide) rfl ?_
  exact x_iret dX12_breaksAt_9 rfl ⟨rfl, (moR a2 (sm6.at f37 (by decide)) (sm6.at f38 (by decide)) (sm6.at f39 (by decide)) (sm6.at f40 (by decide)) (sm6.at f41 (by decide)) (sm6.at f42 (by decide)) (sm6.at f43 (by decide)) (sm6.at f44 (by decide)) (sm6.at f45 (by decide)) (sm6.at f46 (by decide)) (sm6.at f47 (by decide)) (sm6.at f48 (by decide)) (sm6.at f49 (by decide)) r1 r2 r3), sm6⟩

set_option maxRecDepth 100000 in
set_option maxHeartbeats 4000000 in
theorem m_boxSet {G : GT} {h : List PE} {s : ST} (hM : MoR h s) : CT G mX12_boxSet 0 0 [.ref 36] h (fun o => o.1 = some (.int (s_bs s)) ∧ MoR o.2 s ∧ Sm [36] h o.2) := by
  obtain ⟨thr, siz, too, frm, knd, num, sgn, plc, wrd, tld, now, lst, pfo, thk, are, ipd, mt, bk, dy, nm, cv, sv, k1, k2, k3, k4, k5, k6, k7, f36, f37, f38, f39, f40, f41, f42, f43, f44, f45, f46, f47, f48, f49, r1, r2, r3⟩ := hM
  have sm0 : Sm [36] h h := Sm.rf
  show X (NF G) G mX12_boxSet 0 0 0 [(0, .ref 36)] [] h _
  refine x_aload_n dX12_boxSet_0 0 rfl ?_
  refine x_iconst (v := 0) dX12_boxSet_1 (by decide) ?_
  refine x_put (fs2 := (MO 0 ((nI (s_tn s))) ((nI (s_td s))) ((nI (s_n s))) siz too frm knd num sgn ((s_fl s)) plc wrd tld now lst pfo thk are ((s_br s)) ipd ((s_bs s)))) dX12_boxSet_2 fX12_55 (Or.inl rfl) f36 (by decide) rfl rfl (Nat.le_of_ble_eq_true rfl) rfl (fun h1 a2 e3 l4 s5 => ?_)
  have sm6 := Sm.put sm0 e3 l4 s5 (by decide)
  refine x_aload_n dX12_boxSet_5 0 rfl ?_
  refine x_get (v := .int (s_bs s)) dX12_boxSet_6 fX12_293 a2 (by decide) rfl ?_
  exact x_iret dX12_boxSet_9 rfl ⟨rfl, (moR a2 (sm6.at f37 (by decide)) (sm6.at f38 (by decide)) (sm6.at f39 (by decide)) (sm6.at f40 (by decide)) (sm6.at f41 (by decide)) (sm6.at f42 (by decide)) (sm6.at f43 (by decide)) (sm6.at f44 (by decide)) (sm6.at f45 (by decide)) (sm6.at f46 (by decide)) (sm6.at f47 (by decide)) (sm6.at f48 (by decide)) (sm6.at f49 (by decide)) r1 r2 r3), sm6⟩

set_option maxRecDepth 100000 in
set_option maxHeartbeats 4000000 in
theorem c_count0 {G : GT} {h : List PE} {n td : Nat} {fk br : Int32} (hfa : FaR h n td fk br) {tn : Nat} {tv : Nat → Nat} (hT : TpR h tn tv)  : CT G mX11_count 0 0 [.ref 3, .int 0] h (fun o => o = (some (.int (spCount td n tn 0)), h)) := by
  obtain ⟨tb, f4, f5, e5⟩ := hT
  have f3 : h[3]? = some (cO 11 [.ref 4, .ref 6, .ref 15, .ref 16, .ref 21, .ref 25, .ref 32, .ref 35, .int (nI n), .int (nI td), .int fk, .int br]) := hfa
  show X (NF G) G mX11_count 0 0 0 [(0, .ref 3), (1, .int 0)] [] h _
  refine x_iload_n dX11_count_0 1 rfl ?_
  refine x_tableIn (off := 27) (tgt := 28) dX11_count_1 (by decide) (by decide) rfl (by decide) ?_
  refine x_aload_n dX11_count_28 0 rfl ?_
  refine x_get (v := .int (nI td)) dX11_count_29 fX11_63 f3 (by decide) rfl ?_
  exact x_iret dX11_count_32 rfl rfl

set_option maxRecDepth 100000 in
set_option maxHeartbeats 4000000 in
theorem c_count1 {G : GT} {h : List PE} {n td : Nat} {fk br : Int32} (hfa : FaR h n td fk br) {tn : Nat} {tv : Nat → Nat} (hT : TpR h tn tv)  : CT G mX11_count 0 0 [.ref 3, .int 1] h (fun o => o = (some (.int (spCount td n tn 1)), h)) := by
  obtain ⟨tb, f4, f5, e5⟩ := hT
  have f3 : h[3]? = some (cO 11 [.ref 4, .ref 6, .ref 15, .ref 16, .ref 21, .ref 25, .ref 32, .ref 35, .int (nI n), .int (nI td), .int fk, .int br]) := hfa
  show X (NF G) G mX11_count 0 0 0 [(0, .ref 3), (1, .int 1)] [] h _
  refine x_iload_n dX11_count_0 1 rfl ?_
  refine x_tableIn (off := 32) (tgt := 33) dX11_count_1 (by decide) (by decide) rfl (by decide) ?_
  refine x_aload_n dX11_count_33 0 rfl ?_
  refine x_get (v := .int (nI n)) dX11_count_34 fX11_59 f3 (by decide) rfl ?_
  exact x_iret dX11_count_37 rfl rfl

set_option maxRecDepth 100000 in
set_option maxHeartbeats 4000000 in
theorem c_count2 {G : GT} {h : List PE} {n td : Nat} {fk br : Int32} (hfa : FaR h n td fk br) {tn : Nat} {tv : Nat → Nat} (hT : TpR h tn tv)  : CT G mX11_count 0 0 [.ref 3, .int 2] h (fun o => o = (some (.int (spCount td n tn 2)), h)) := by
  obtain ⟨tb, f4, f5, e5⟩ := hT
  have f3 : h[3]? = some (cO 11 [.ref 4, .ref 6, .ref 15, .ref 16, .ref 21, .ref 25, .ref 32, .ref 35, .int (nI n), .int (nI td), .int fk, .int br]) := hfa
  show X (NF G) G mX11_count 0 0 0 [(0, .ref 3), (1, .int 2)] [] h _
  refine x_iload_n dX11_count_0 1 rfl ?_
  refine x_tableIn (off := 37) (tgt := 38) dX11_count_1 (by decide) (by decide) rfl (by decide) ?_
  refine x_aload_n dX11_count_38 0 rfl ?_
  refine x_get (v := .ref 4) dX11_count_39 fX11_10 f3 (by decide) rfl ?_
  refine x_get (v := .int (nI tn)) dX11_count_42 fX11_72 f4 (by decide) rfl ?_
  exact x_iret dX11_count_45 rfl rfl

set_option maxRecDepth 100000 in
set_option maxHeartbeats 4000000 in
theorem c_count3 {G : GT} {h : List PE} {n td : Nat} {fk br : Int32} (hfa : FaR h n td fk br) {tn : Nat} {tv : Nat → Nat} (hT : TpR h tn tv) {x : Int32} (hx : x.toInt < 0 ∨ 2 < x.toInt) : CT G mX11_count 0 0 [.ref 3, .int x] h (fun o => o = (some (.int (spCount td n tn x)), h)) := by
  obtain ⟨tb, f4, f5, e5⟩ := hT
  have f3 : h[3]? = some (cO 11 [.ref 4, .ref 6, .ref 15, .ref 16, .ref 21, .ref 25, .ref 32, .ref 35, .int (nI n), .int (nI td), .int fk, .int br]) := hfa
  show X (NF G) G mX11_count 0 0 0 [(0, .ref 3), (1, .int x)] [] h _
  refine x_iload_n dX11_count_0 1 rfl ?_
  refine x_tableOut (tgt := 46) dX11_count_1 hx (by decide) ?_
  refine x_iconst (v := (-1)) dX11_count_46 (by decide) ?_
  exact x_iret dX11_count_47 rfl (by rw [spCount, if_neg (fun e => by rw [e] at hx; exact absurd hx (by decide)), if_neg (fun e => by rw [e] at hx; exact absurd hx (by decide)), if_neg (fun e => by rw [e] at hx; exact absurd hx (by decide))])

theorem c_count {G : GT} {h : List PE} {n td : Nat} {fk br : Int32} (hfa : FaR h n td fk br) {tn : Nat} {tv : Nat → Nat} (hT : TpR h tn tv) {x : Int32} : CT G mX11_count 0 0 [.ref 3, .int x] h (fun o => o = (some (.int (spCount td n tn x)), h)) := by
  rcases sw3 x with rfl | rfl | rfl | hx
  · exact c_count0 hfa hT
  · exact c_count1 hfa hT
  · exact c_count2 hfa hT
  · exact c_count3 hfa hT hx

set_option maxRecDepth 100000 in
set_option maxHeartbeats 4000000 in
theorem m_count0 {G : GT} {h : List PE} {s : ST} (hM : MoR h s)  : CT G mX12_count 0 0 [.ref 36, .int 0] h (fun o => o.1 = some (.int (spCount (s_td s) (s_n s) (s_tn s) 0)) ∧ MoR o.2 s ∧ Sm [36] h o.2) := by
  obtain ⟨thr, siz, too, frm, knd, num, sgn, plc, wrd, tld, now, lst, pfo, thk, are, ipd, mt, bk, dy, nm, cv, sv, k1, k2, k3, k4, k5, k6, k7, f36, f37, f38, f39, f40, f41, f42, f43, f44, f45, f46, f47, f48, f49, r1, r2, r3⟩ := hM
  have sm0 : Sm [36] h h := Sm.rf
  show X (NF G) G mX12_count 0 0 0 [(0, .ref 36), (1, .int 0)] [] h _
  refine x_aload_n dX12_count_0 0 rfl ?_
  refine x_iconst (v := 0) dX12_count_1 (by decide) ?_
  refine x_put (fs2 := (MO 0 ((nI (s_tn s))) ((nI (s_td s))) ((nI (s_n s))) siz too frm knd num sgn ((s_fl s)) plc wrd tld now lst pfo thk are ((s_br s)) ipd ((s_bs s)))) dX12_count_2 fX12_55 (Or.inl rfl) f36 (by decide) rfl rfl (Nat.le_of_ble_eq_true rfl) rfl (fun h1 a2 e3 l4 s5 => ?_)
  have sm6 := Sm.put sm0 e3 l4 s5 (by decide)
  refine x_iload_n dX12_count_5 1 rfl ?_
  refine x_tableIn (off := 26) (tgt := 32) dX12_count_6 (by decide) (by decide) rfl (by decide) ?_
  refine x_aload_n dX12_count_32 0 rfl ?_
  refine x_get (v := .int (nI (s_td s))) dX12_count_33 fX12_69 a2 (by decide) rfl ?_
  exact x_iret dX12_count_36 rfl ⟨rfl, (moR a2 (sm6.at f37 (by decide)) (sm6.at f38 (by decide)) (sm6.at f39 (by decide)) (sm6.at f40 (by decide)) (sm6.at f41 (by decide)) (sm6.at f42 (by decide)) (sm6.at f43 (by decide)) (sm6.at f44 (by decide)) (sm6.at f45 (by decide)) (sm6.at f46 (by decide)) (sm6.at f47 (by decide)) (sm6.at f48 (by decide)) (sm6.at f49 (by decide)) r1 r2 r3), sm6⟩

set_option maxRecDepth 100000 in
set_option maxHeartbeats 4000000 in
theorem m_count1 {G : GT} {h : List PE} {s : ST} (hM : MoR h s)  : CT G mX12_count 0 0 [.ref 36, .int 1] h (fun o => o.1 = some (.int (spCount (s_td s) (s_n s) (s_tn s) 1)) ∧ MoR o.2 s ∧ Sm [36] h o.2) := by
  obtain ⟨thr, siz, too, frm, knd, num, sgn, plc, wrd, tld, now, lst, pfo, thk, are, ipd, mt, bk, dy, nm, cv, sv, k1, k2, k3, k4, k5, k6, k7, f36, f37, f38, f39, f40, f41, f42, f43, f44, f45, f46, f47, f48, f49, r1, r2, r3⟩ := hM
  have sm0 : Sm [36] h h := Sm.rf
  show X (NF G) G mX12_count 0 0 0 [(0, .ref 36), (1, .int 1)] [] h _
  refine x_aload_n dX12_count_0 0 rfl ?_
  refine x_iconst (v := 0) dX12_count_1 (by decide) ?_
  refine x_put (fs2 := (MO 0 ((nI (s_tn s))) ((nI (s_td s))) ((nI (s_n s))) siz too frm knd num sgn ((s_fl s)) plc wrd tld now lst pfo thk are ((s_br s)) ipd ((s_bs s)))) dX12_count_2 fX12_55 (Or.inl rfl) f36 (by decide) rfl rfl (Nat.le_of_ble_eq_true rfl) rfl (fun h1 a2 e3 l4 s5 => ?_)
  have sm6 := Sm.put sm0 e3 l4 s5 (by decide)
  refine x_iload_n dX12_count_5 1 rfl ?_
  refine x_tableIn (off := 31) (tgt := 37) dX12_count_6 (by decide) (by decide) rfl (by decide) ?_
  refine x_aload_n dX12_count_37 0 rfl ?_
  refine x_get (v := .int (nI (s_n s))) dX12_count_38 fX12_205 a2 (by decide) rfl ?_
  exact x_iret dX12_count_41 rfl ⟨rfl, (moR a2 (sm6.at f37 (by decide)) (sm6.at f38 (by decide)) (sm6.at f39 (by decide)) (sm6.at f40 (by decide)) (sm6.at f41 (by decide)) (sm6.at f42 (by decide)) (sm6.at f43 (by decide)) (sm6.at f44 (by decide)) (sm6.at f45 (by decide)) (sm6.at f46 (by decide)) (sm6.at f47 (by decide)) (sm6.at f48 (by decide)) (sm6.at f49 (by decide)) r1 r2 r3), sm6⟩

set_option maxRecDepth 100000 in
set_option maxHeartbeats 4000000 in
theorem m_count2 {G : GT} {h : List PE} {s : ST} (hM : MoR h s)  : CT G mX12_count 0 0 [.ref 36, .int 2] h (fun o => o.1 = some (.int (spCount (s_td s) (s_n s) (s_tn s) 2)) ∧ MoR o.2 s ∧ Sm [36] h o.2) := by
  obtain ⟨thr, siz, too, frm, knd, num, sgn, plc, wrd, tld, now, lst, pfo, thk, are, ipd, mt, bk, dy, nm, cv, sv, k1, k2, k3, k4, k5, k6, k7, f36, f37, f38, f39, f40, f41, f42, f43, f44, f45, f46, f47, f48, f49, r1, r2, r3⟩ := hM
  have sm0 : Sm [36] h h := Sm.rf
  show X (NF G) G mX12_count 0 0 0 [(0, .ref 36), (1, .int 2)] [] h _
  refine x_aload_n dX12_count_0 0 rfl ?_
  refine x_iconst (v := 0) dX12_count_1 (by decide) ?_
  refine x_put (fs2 := (MO 0 ((nI (s_tn s))) ((nI (s_td s))) ((nI (s_n s))) siz too frm knd num sgn ((s_fl s)) plc wrd tld now lst pfo thk are ((s_br s)) ipd ((s_bs s)))) dX12_count_2 fX12_55 (Or.inl rfl) f36 (by decide) rfl rfl (Nat.le_of_ble_eq_true rfl) rfl (fun h1 a2 e3 l4 s5 => ?_)
  have sm6 := Sm.put sm0 e3 l4 s5 (by decide)
  refine x_iload_n dX12_count_5 1 rfl ?_
  refine x_tableIn (off := 36) (tgt := 42) dX12_count_6 (by decide) (by decide) rfl (by decide) ?_
  refine x_aload_n dX12_count_42 0 rfl ?_
  refine x_get (v := .int (nI (s_tn s))) dX12_count_43 fX12_58 a2 (by decide) rfl ?_
  exact x_iret dX12_count_46 rfl ⟨rfl, (moR a2 (sm6.at f37 (by decide)) (sm6.at f38 (by decide)) (sm6.at f39 (by decide)) (sm6.at f40 (by decide)) (sm6.at f41 (by decide)) (sm6.at f42 (by decide)) (sm6.at f43 (by decide)) (sm6.at f44 (by decide)) (sm6.at f45 (by decide)) (sm6.at f46 (by decide)) (sm6.at f47 (by decide)) (sm6.at f48 (by decide)) (sm6.at f49 (by decide)) r1 r2 r3), sm6⟩

set_option maxRecDepth 100000 in
set_option maxHeartbeats 4000000 in
theorem m_count3 {G : GT} {h : List PE} {s : ST} (hM : MoR h s) {x : Int32} (hx : x.toInt < 0 ∨ 2 < x.toInt) : CT G mX12_count 0 0 [.ref 36, .int x] h (fun o => o.1 = some (.int (spCount (s_td s) (s_n s) (s_tn s) x)) ∧ MoR o.2 s ∧ Sm [36] h o.2) := by
  obtain ⟨thr, siz, too, frm, knd, num, sgn, plc, wrd, tld, now, lst, pfo, thk, are, ipd, mt, bk, dy, nm, cv, sv, k1, k2, k3, k4, k5, k6, k7, f36, f37, f38, f39, f40, f41, f42, f43, f44, f45, f46, f47, f48, f49, r1, r2, r3⟩ := hM
  have sm0 : Sm [36] h h := Sm.rf
  show X (NF G) G mX12_count 0 0 0 [(0, .ref 36), (1, .int x)] [] h _
  refine x_aload_n dX12_count_0 0 rfl ?_
  refine x_iconst (v := 0) dX12_count_1 (by decide) ?_
  refine x_put (fs2 := (MO 0 ((nI (s_tn s))) ((nI (s_td s))) ((nI (s_n s))) siz too frm knd num sgn ((s_fl s)) plc wrd tld now lst pfo thk are ((s_br s)) ipd ((s_bs s)))) dX12_count_2 fX12_55 (Or.inl rfl) f36 (by decide) rfl rfl (Nat.le_of_ble_eq_true rfl) rfl (fun h1 a2 e3 l4 s5 => ?_)
  have sm6 := Sm.put sm0 e3 l4 s5 (by decide)
  refine x_iload_n dX12_count_5 1 rfl ?_
  refine x_tableOut (tgt := 47) dX12_count_6 hx (by decide) ?_
  refine x_iconst (v := (-1)) dX12_count_47 (by decide) ?_
  exact x_iret dX12_count_48 rfl ⟨by rw [spCount, if_neg (fun e => by rw [e] at hx; exact absurd hx (by decide)), if_neg (fun e => by rw [e] at hx; exact absurd hx (by decide)), if_neg (fun e => by rw [e] at hx; exact absurd hx (by decide))], (moR a2 (sm6.at f37 (by decide)) (sm6.at f38 (by decide)) (sm6.at f39 (by decide)) (sm6.at f40 (by decide)) (sm6.at f41 (by decide)) (sm6.at f42 (by decide)) (sm6.at f43 (by decide)) (sm6.at f44 (by decide)) (sm6.at f45 (by decide)) (sm6.at f46 (by decide)) (sm6.at f47 (by decide)) (sm6.at f48 (by decide)) (sm6.at f49 (by decide)) r1 r2 r3), sm6⟩

theorem m_count {G : GT} {h : List PE} {s : ST} (hM : MoR h s) {x : Int32} : CT G mX12_count 0 0 [.ref 36, .int x] h (fun o => o.1 = some (.int (spCount (s_td s) (s_n s) (s_tn s) x)) ∧ MoR o.2 s ∧ Sm [36] h o.2) := by
  rcases sw3 x with rfl | rfl | rfl | hx
  · exact m_count0 hM
  · exact m_count1 hM
  · exact m_count2 hM
  · exact m_count3 hM hx

set_option maxRecDepth 100000 in
set_option maxHeartbeats 4000000 in
theorem c_many0 {G : GT} {h : List PE} {n td : Nat} {fk br : Int32} (hfa : FaR h n td fk br) {dy : Nat → Int32} {rc : Nat → Nat → Int32} {ct : Nat → Nat × Nat × Nat × Nat} {t : Int32} (hbk : BkR h n dy rc ct) (hn : n ≤ 20)  : CT G mX11_many 2 43 [.ref 3, .int 0, .int t] h (fun o => o = (some (.int (spMany (curC n dy ct t) 0)), h)) := by
  have f3 : h[3]? = some (cO 11 [.ref 4, .ref 6, .ref 15, .ref 16, .ref 21, .ref 25, .ref 32, .ref 35, .int (nI n), .int (nI td), .int fk, .int br]) := hfa
  obtain ⟨zb, bq, ab, day, f15, hd, hab, hB⟩ := hbk.cur t
  obtain ⟨hb0, b1, b2, b3, b4, fq, tq, bq2, dq, zf, zt, zb2, zd, ln, q1, q2, q3, q4, q5, r0, -⟩ := id hB
  show X (NF G) G mX11_many 2 43 0 [(0, .ref 3), (1, .int 0), (2, .int t)] [] h _
  refine x_aload_n dX11_many_0 0 rfl ?_
  refine x_iload_n dX11_many_1 2 rfl ?_
  refine x_callV (rf' := 1) (rl' := 21) [.int t] [] dX11_many_2 vX11_95 Y_X11_asOf f3 (by decide) rfl rfl (Nat.le_of_ble_eq_true rfl) (Nat.le_of_ble_eq_true rfl) (by decide) (by decide) (c_asOf hfa f15 hn hd) (fun _ _ e1 => ?_)
  cases e1
  rw [hab]
  refine x_astore_n (lv2 := [(3, .ref ab), (0, .ref 3), (1, .int 0), (2, .int t)]) dX11_many_5 (by decide) rfl ?_
  refine x_iload_n dX11_many_6 2 rfl ?_
  refine x_tableIn (off := 29) (tgt := 36) dX11_many_7 (by decide) (by decide) rfl (by decide) ?_
  refine x_aload_n dX11_many_36 0 rfl ?_
  refine x_get (v := .int (nI (curC n dy ct t).1)) dX11_many_37 fX11_99 r0 (by omega) rfl ?_
  exact x_iret dX11_many_40 rfl rfl

set_option maxRecDepth 100000 in
set_option maxHeartbeats 4000000 in
theorem c_many1 {G : GT} {h : List PE} {n td : Nat} {fk br : Int32} (hfa : FaR h n td fk br) {dy : Nat → Int32} {rc : Nat → Nat → Int32} {ct : Nat → Nat × Nat × Nat × Nat} {t : Int32} (hbk : BkR h n dy rc ct) (hn : n ≤ 20)  : CT G mX11_many 2 43 [.ref 3, .int 1, .int t] h (fun o => o = (some (.int (spMany (curC n dy ct t) 1)), h)) := by
  have f3 : h[3]? = some (cO 11 [.ref 4, .ref 6, .ref 15, .ref 16, .ref 21, .ref 25, .ref 32, .ref 35, .int (nI n), .int (nI td), .int fk, .int br]) := hfa
  obtain ⟨zb, bq, ab, day, f15, hd, hab, hB⟩ := hbk.cur t
  obtain ⟨hb0, b1, b2, b3, b4, fq, tq, bq2, dq, zf, zt, zb2, zd, ln, q1, q2, q3, q4, q5, r0, -⟩ := id hB
  show X (NF G) G mX11_many 2 43 0 [(0, .ref 3), (1, .int 1), (2, .int t)] [] h _
  refine x_aload_n dX11_many_0 0 rfl ?_
  refine x_iload_n dX11_many_1 2 rfl ?_
  refine x_callV (rf' := 1) (rl' := 21) [.int t] [] dX11_many_2 vX11_95 Y_X11_asOf f3 (by decide) rfl rfl (Nat.le_of_ble_eq_true rfl) (Nat.le_of_ble_eq_true rfl) (by decide) (by decide) (c_asOf hfa f15 hn hd) (fun _ _ e1 => ?_)
  cases e1
  rw [hab]
  refine x_astore_n (lv2 := [(3, .ref ab), (0, .ref 3), (1, .int 1), (2, .int t)]) dX11_many_5 (by decide) rfl ?_
  refine x_iload_n dX11_many_6 2 rfl ?_
  refine x_tableIn (off := 34) (tgt := 41) dX11_many_7 (by decide) (by decide) rfl (by decide) ?_
  refine x_aload_n dX11_many_41 0 rfl ?_
  refine x_get (v := .int (nI (curC n dy ct t).2.1)) dX11_many_42 fX11_102 r0 (by omega) rfl ?_
  exact x_iret dX11_many_45 rfl rfl

set_option maxRecDepth 100000 in
set_option maxHeartbeats 4000000 in
theorem c_many2 {G : GT} {h : List PE} {n td : Nat} {fk br : Int32} (hfa : FaR h n td fk br) {dy : Nat → Int32} {rc : Nat → Nat → Int32} {ct : Nat → Nat × Nat × Nat × Nat} {t : Int32} (hbk : BkR h n dy rc ct) (hn : n ≤ 20)  : CT G mX11_many 2 43 [.ref 3, .int 2, .int t] h (fun o => o = (some (.int (spMany (curC n dy ct t) 2)), h)) := by
  have f3 : h[3]? = some (cO 11 [.ref 4, .ref 6, .ref 15, .ref 16, .ref 21, .ref 25, .ref 32, .ref 35, .int (nI n), .int (nI td), .int fk, .int br]) := hfa
  obtain ⟨zb, bq, ab, day, f15, hd, hab, hB⟩ := hbk.cur t
  obtain ⟨hb0, b1, b2, b3, b4, fq, tq, bq2, dq, zf, zt, zb2, zd, ln, q1, q2, q3, q4, q5, r0, -⟩ := id hB
  show X (NF G) G mX11_many 2 43 0 [(0, .ref 3), (1, .int 2), (2, .int t)] [] h _
  refine x_aload_n dX11_many_0 0 rfl ?_
  refine x_iload_n dX11_many_1 2 rfl ?_
  refine x_callV (rf' := 1) (rl' := 21) [.int t] [] dX11_many_2 vX11_95 Y_X11_asOf f3 (by decide) rfl rfl (Nat.le_of_ble_eq_true rfl) (Nat.le_of_ble_eq_true rfl) (by decide) (by decide) (c_asOf hfa f15 hn hd) (fun _ _ e1 => ?_)
  cases e1
  rw [hab]
  refine x_astore_n (lv2 := [(3, .ref ab), (0, .ref 3), (1, .int 2), (2, .int t)]) dX11_many_5 (by decide) rfl ?_
  refine x_iload_n dX11_many_6 2 rfl ?_
  refine x_tableIn (off := 39) (tgt := 46) dX11_many_7 (by decide) (by decide) rfl (by decide) ?_
  refine x_aload_n dX11_many_46 0 rfl ?_
  refine x_get (v := .int (nI (curC n dy ct t).2.2.1)) dX11_many_47 fX11_105 r0 (by omega) rfl ?_
  exact x_iret dX11_many_50 rfl rfl

set_option maxRecDepth 100000 in
set_option maxHeartbeats 4000000 in
theorem c_many3 {G : GT} {h : List PE} {n td : Nat} {fk br : Int32} (hfa : FaR h n td fk br) {dy : Nat → Int32} {rc : Nat → Nat → Int32} {ct : Nat → Nat × Nat × Nat × Nat} {t : Int32} (hbk : BkR h n dy rc ct) (hn : n ≤ 20)  : CT G mX11_many 2 43 [.ref 3, .int 3, .int t] h (fun o => o = (some (.int (spMany (curC n dy ct t) 3)), h)) := by
  have f3 : h[3]? = some (cO 11 [.ref 4, .ref 6, .ref 15, .ref 16, .ref 21, .ref 25, .ref 32, .ref 35, .int (nI n), .int (nI td), .int fk, .int br]) := hfa
  obtain ⟨zb, bq, ab, day, f15, hd, hab, hB⟩ := hbk.cur t
  obtain ⟨hb0, b1, b2, b3, b4, fq, tq, bq2, dq, zf, zt, zb2, zd, ln, q1, q2, q3, q4, q5, r0, -⟩ := id hB
  show X (NF G) G mX11_many 2 43 0 [(0, .ref 3), (1, .int 3), (2, .int t)] [] h _
  refine x_aload_n dX11_many_0 0 rfl ?_
  refine x_iload_n dX11_many_1 2 rfl ?_
  refine x_callV (rf' := 1) (rl' := 21) [.int t] [] dX11_many_2 vX11_95 Y_X11_asOf f3 (by decide) rfl rfl (Nat.le_of_ble_eq_true rfl) (Nat.le_of_ble_eq_true rfl) (by decide) (by decide) (c_asOf hfa f15 hn hd) (fun _ _ e1 => ?_)
  cases e1
  rw [hab]
  refine x_astore_n (lv2 := [(3, .ref ab), (0, .ref 3), (1, .int 3), (2, .int t)]) dX11_many_5 (by decide) rfl ?_
  refine x_iload_n dX11_many_6 2 rfl ?_
  refine x_tableIn (off := 44) (tgt := 51) dX11_many_7 (by decide) (by decide) rfl (by decide) ?_
  refine x_aload_n dX11_many_51 0 rfl ?_
  refine x_get (v := .int (nI (curC n dy ct t).2.2.2)) dX11_many_52 fX11_108 r0 (by omega) rfl ?_
  exact x_iret dX11_many_55 rfl rfl

set_option maxRecDepth 100000 in
set_option maxHeartbeats 4000000 in
theorem c_many4 {G : GT} {h : List PE} {n td : Nat} {fk br : Int32} (hfa : FaR h n td fk br) {dy : Nat → Int32} {rc : Nat → Nat → Int32} {ct : Nat → Nat × Nat × Nat × Nat} {t : Int32} (hbk : BkR h n dy rc ct) (hn : n ≤ 20) {x : Int32} (hx : x.toInt < 0 ∨ 3 < x.toInt) : CT G mX11_many 2 43 [.ref 3, .int x, .int t] h (fun o => o = (some (.int (spMany (curC n dy ct t) x)), h)) := by
  have f3 : h[3]? = some (cO 11 [.ref 4, .ref 6, .ref 15, .ref 16, .ref 21, .ref 25, .ref 32, .ref 35, .int (nI n), .int (nI td), .int fk, .int br]) := hfa
  obtain ⟨zb, bq, ab, day, f15, hd, hab, hB⟩ := hbk.cur t
  obtain ⟨hb0, b1, b2, b3, b4, fq, tq, bq2, dq, zf, zt, zb2, zd, ln, q1, q2, q3, q4, q5, r0, -⟩ := id hB
  show X (NF G) G mX11_many 2 43 0 [(0, .ref 3), (1, .int x), (2, .int t)] [] h _
  refine x_aload_n dX11_many_0 0 rfl ?_
  refine x_iload_n dX11_many_1 2 rfl ?_
  refine x_callV (rf' := 1) (rl' := 21) [.int t] [] dX11_many_2 vX11_95 Y_X11_asOf f3 (by decide) rfl rfl (Nat.le_of_ble_eq_true rfl) (Nat.le_of_ble_eq_true rfl) (by decide) (by decide) (c_asOf hfa f15 hn hd) (fun _ _ e1 => ?_)
  cases e1
  rw [hab]
  refine x_astore_n (lv2 := [(3, .ref ab), (0, .ref 3), (1, .int x), (2, .int t)]) dX11_many_5 (by decide) rfl ?_
  refine x_iload_n dX11_many_6 2 rfl ?_
  refine x_tableOut (tgt := 56) dX11_many_7 hx (by decide) ?_
  refine x_iconst (v := (-1)) dX11_many_56 (by decide) ?_
  exact x_iret dX11_many_57 rfl (by rw [spMany, if_neg (fun e => by rw [e] at hx; exact absurd hx (by decide)), if_neg (fun e => by rw [e] at hx; exact absurd hx (by decide)), if_neg (fun e => by rw [e] at hx; exact absurd hx (by decide)), if_neg (fun e => by rw [e] at hx; exact absurd hx (by decide))])

theorem c_many {G : GT} {h : List PE} {n td : Nat} {fk br : Int32} (hfa : FaR h n td fk br) {dy : Nat → Int32} {rc : Nat → Nat → Int32} {ct : Nat → Nat × Nat × Nat × Nat} {t : Int32} (hbk : BkR h n dy rc ct) (hn : n ≤ 20) {x : Int32} : CT G mX11_many 2 43 [.ref 3, .int x, .int t] h (fun o => o = (some (.int (spMany (curC n dy ct t) x)), h)) := by
  rcases sw4 x with rfl | rfl | rfl | rfl | hx
  · exact c_many0 hfa hbk hn
  · exact c_many1 hfa hbk hn
  · exact c_many2 hfa hbk hn
  · exact c_many3 hfa hbk hn
  · exact c_many4 hfa hbk hn hx

set_option maxRecDepth 100000 in
set_option maxHeartbeats 4000000 in
theorem m_manyB {G : GT} {h : List PE} {s : ST} {t : Int32} (hM : MoR h s) (hW : WS s) {x : Int32} (hx : x.toInt < 0 ∨ 3 < x.toInt) : CT G mX12_many 2 42 [.ref 36, .int x, .int t] h (fun o => o.1 = some (.int (spMany (sC s t) x)) ∧ MoR o.2 s ∧ Sm [36] h o.2) := by
  obtain ⟨thr, siz, too, frm, knd, num, sgn, plc, wrd, tld, now, lst, pfo, thk, are, ipd, mt, bk, dy, nm, cv, sv, k1, k2, k3, k4, k5, k6, k7, f36, f37, f38, f39, f40, f41, f42, f43, f44, f45, f46, f47, f48, f49, r1, r2, r3⟩ := hM
  have sm0 : Sm [36] h h := Sm.rf
  have hi : x < 0 ∨ (3 : Int32) < x := by rw [Int32.lt_iff_toInt_lt, Int32.lt_iff_toInt_lt]; exact hx
  show X (NF G) G mX12_many 2 42 0 [(0, .ref 36), (1, .int x), (2, .int t)] [] h _
  refine x_aload_n dX12_many_0 0 rfl ?_
  refine x_iconst (v := 0) dX12_many_1 (by decide) ?_
  refine x_put (fs2 := (MO 0 ((nI (s_tn s))) ((nI (s_td s))) ((nI (s_n s))) siz too frm knd num sgn ((s_fl s)) plc wrd tld now lst pfo thk are ((s_br s)) ipd ((s_bs s)))) dX12_many_2 fX12_55 (Or.inl rfl) f36 (by decide) rfl rfl (Nat.le_of_ble_eq_true rfl) rfl (fun h1 a2 e3 l4 s5 => ?_)
  have sm6 := Sm.put sm0 e3 l4 s5 (by decide)
  refine x_iload_n dX12_many_5 1 rfl ?_
  refine x_iconst (v := 0) dX12_many_6 (by decide) ?_
  refine x_iconst (v := 3) dX12_many_7 (by decide) ?_
  refine x_callS (rf' := 0) (rl' := 0) [.int x, .int 0, .int 3] [] dX12_many_8 vX12_65 Y_X12_isIn rfl rfl (Nat.le_of_ble_eq_true rfl) (Nat.le_of_ble_eq_true rfl) (by decide) (by decide) c_isIn (fun _ _ e1 => ?_)
  cases e1
  rw [if_pos hi]
  refine x_if_ne (tgt := 18) dX12_many_11 (by decide) (fun c_11 => absurd (by decide) c_11) (fun c_11 => ?_)
  refine x_iconst (v := (-1)) dX12_many_14 (by decide) ?_
  refine x_goto (tgt := 35) dX12_many_15 (by decide) ?_
  exact x_iret dX12_many_35 rfl ⟨by rw [spMany, if_neg (fun e => by rw [e] at hx; exact absurd hx (by decide)), if_neg (fun e => by rw [e] at hx; exact absurd hx (by decide)), if_neg (fun e => by rw [e] at hx; exact absurd hx (by decide)), if_neg (fun e => by rw [e] at hx; exact absurd hx (by decide))], (moR a2 (sm6.at f37 (by decide)) (sm6.at f38 (by decide)) (sm6.at f39 (by decide)) (sm6.at f40 (by decide)) (sm6.at f41 (by decide)) (sm6.at f42 (by decide)) (sm6.at f43 (by decide)) (sm6.at f44 (by decide)) (sm6.at f45 (by decide)) (sm6.at f46 (by decide)) (sm6.at f47 (by decide)) (sm6.at f48 (by decide)) (sm6.at f49 (by decide)) r1 r2 r3), sm6⟩

set_option maxRecDepth 100000 in
set_option maxHeartbeats 4000000 in
theorem m_manyG {G : GT} {h : List PE} {s : ST} {t : Int32} (hM : MoR h s) (hW : WS s) {q : Nat} (hq : q < 4) : CT G mX12_many 2 42 [.ref 36, .int (nI q), .int t] h (fun o => o.1 = some (.int (spMany (sC s t) (nI q))) ∧ MoR o.2 s ∧ Sm [36] h o.2) := by
  obtain ⟨thr, siz, too, frm, knd, num, sgn, plc, wrd, tld, now, lst, pfo, thk, are, ipd, mt, bk, dy, nm, cv, sv, k1, k2, k3, k4, k5, k6, k7, f36, f37, f38, f39, f40, f41, f42, f43, f44, f45, f46, f47, f48, f49, r1, r2, r3⟩ := hM
  have W := hW.cur t
  have hm : MB (s_n s) dy bk (s_dy s) (s_rc s) := ⟨hW.1, r2⟩
  have sm0 : Sm [36] h h := Sm.rf
  have hlb : lastB dy t (s_n s) = lastB (s_dy s) t (s_n s) := lastB_cong (fun k hk => (hm.2 k hk).1)
  have hi : ¬ (nI q < 0 ∨ (3 : Int32) < nI q) := fun z => z.elim (nI_pos (by omega)) (fun z => absurd ((nI_ltI (a := 3) (by decide) (by omega)).mp z) (by omega))
  have hsp : spMany (sC s t) (nI q) = nI (cQ (sC s t) q) := by match q, hq with | 0, _ => rfl | 1, _ => rfl | 2, _ => rfl | 3, _ => rfl
  show X (NF G) G mX12_many 2 42 0 [(0, .ref 36), (1, .int (nI q)), (2, .int t)] [] h _
  refine x_aload_n dX12_many_0 0 rfl ?_
  refine x_iconst (v := 0) dX12_many_1 (by decide) ?_
  refine x_put (fs2 := (MO 0 ((nI (s_tn s))) ((nI (s_td s))) ((nI (s_n s))) siz too frm knd num sgn ((s_fl s)) plc wrd tld now lst pfo thk are ((s_br s)) ipd ((s_bs s)))) dX12_many_2 fX12_55 (Or.inl rfl) f36 (by decide) rfl rfl (Nat.le_of_ble_eq_true rfl) rfl (fun h1 a2 e3 l4 s5 => ?_)
  have f6 := (e3 38 (by decide)).trans f38
  have f7 := (e3 39 (by decide)).trans f39
  have sm8 := Sm.put sm0 e3 l4 s5 (by decide)
  refine x_iload_n dX12_many_5 1 rfl ?_
  refine x_iconst (v := 0) dX12_many_6 (by decide) ?_
  refine x_iconst (v := 3) dX12_many_7 (by decide) ?_
  refine x_callS (rf' := 0) (rl' := 0) [.int (nI q), .int 0, .int 3] [] dX12_many_8 vX12_65 Y_X12_isIn rfl rfl (Nat.le_of_ble_eq_true rfl) (Nat.le_of_ble_eq_true rfl) (by decide) (by decide) c_isIn (fun _ _ e1 => ?_)
  cases e1
  rw [if_neg hi]
  refine x_if_ne (tgt := 18) dX12_many_11 (by decide) (fun c_11 => ?_) (fun c_11 => absurd c_11 (by decide))
  refine x_aload_n dX12_many_18 0 rfl ?_
  refine x_iload_n dX12_many_19 2 rfl ?_
  refine x_callV (rf' := 1) (rl' := 20) [.int t] [] dX12_many_20 vX12_214 Y_X12_isBooked a2 (by decide) rfl rfl (Nat.le_of_ble_eq_true rfl) (Nat.le_of_ble_eq_true rfl) (by decide) (by decide) (c_isBooked a2 f7 hm.1) (fun r h1 e1 => ?_)
  obtain ⟨e0, g36, sm1⟩ := e1
  cases e0
  rw [hlb] at g36 ⊢
  have g38 := sm1.at f6 (by decide)
  have sm2 := sm8.tr sm1
  cases hl : lastB (s_dy s) t (s_n s) with
  | none =>
    rw [if_pos rfl]
    refine x_if_eq (tgt := 34) dX12_many_23 (by decide) (fun c_23 => ?_) (fun c_23 => absurd (by decide) c_23)
    refine x_iconst (v := 0) dX12_many_34 (by decide) ?_
    exact x_iret dX12_many_35 rfl ⟨by rw [hsp]; unfold sC curC; rw [hl]; unfold cQ; split <;> rfl, (moR g36 (sm2.at f37 (by decide)) (sm2.at f38 (by decide)) (sm2.at f39 (by decide)) (sm2.at f40 (by decide)) (sm2.at f41 (by decide)) (sm2.at f42 (by decide)) (sm2.at f43 (by decide)) (sm2.at f44 (by decide)) (sm2.at f45 (by decide)) (sm2.at f46 (by decide)) (sm2.at f47 (by decide)) (sm2.at f48 (by decide)) (sm2.at f49 (by decide)) r1 r2 r3), sm2⟩
  | some b =>
    rw [hl] at g36
    rw [if_neg (by simp)]
    have RH : 484 * b + 484 ≤ 10164 ∧ ∀ j, j < 484 → bk (484 * b + j) = sR s t j := hm.rh hl
    have g36 : h1[36]? = some (cO 12 (MO 0 ((nI (s_tn s))) ((nI (s_td s))) ((nI (s_n s))) siz too frm knd num sgn ((s_fl s)) plc wrd tld ((nI (484 * b))) lst pfo thk are ((s_br s)) ipd ((s_bs s)))) := g36
    refine x_if_eq (tgt := 34) dX12_many_23 (by decide) (fun c_23 => absurd c_23 (by decide)) (fun c_23 => ?_)
    refine x_aload_n dX12_many_26 0 rfl ?_
    refine x_iload_n dX12_many_27 1 rfl ?_
    refine x_callV (rf' := 0) (rl' := 0) [.int (nI q)] [] dX12_many_28 vX12_217 Y_X12_of g36 (by decide) rfl rfl (Nat.le_of_ble_eq_true rfl) (Nat.le_of_ble_eq_true rfl) (by decide) (by decide) (c_ofR g36 g38 RH (by omega)) (fun _ _ e5 => ?_)
    cases e5
    rw [(cQ_rec W hq).1]
    refine x_goto (tgt := 35) dX12_many_31 (by decide) ?_
    exact x_iret dX12_many_35 rfl ⟨by rw [hsp], (moR g36 (sm2.at f37 (by decide)) (sm2.at f38 (by decide)) (sm2.at f39 (by decide)) (sm2.at f40 (by decide)) (sm2.at f41 (by decide)) (sm2.at f42 (by decide)) (sm2.at f43 (by decide)) (sm2.at f44 (by decide)) (sm2.at f45 (by decide)) (sm2.at f46 (by decide)) (sm2.at f47 (by decide)) (sm2.at f48 (by decide)) (sm2.at f49 (by decide)) r1 r2 r3), sm2⟩

theorem m_many {G : GT} {h : List PE} {s : ST} {t : Int32} (hM : MoR h s) (hW : WS s) {x : Int32} : CT G mX12_many 2 42 [.ref 36, .int x, .int t] h (fun o => o.1 = some (.int (spMany (sC s t) x)) ∧ MoR o.2 s ∧ Sm [36] h o.2) := by
  rcases sw4 x with rfl | rfl | rfl | rfl | hx
  · exact m_manyG (q := 0) hM hW (by decide)
  · exact m_manyG (q := 1) hM hW (by decide)
  · exact m_manyG (q := 2) hM hW (by decide)
  · exact m_manyG (q := 3) hM hW (by decide)
  · exact m_manyB hM hW hx

set_option maxRecDepth 100000 in
set_option maxHeartbeats 4000000 in
theorem c_padAtB {G : GT} {h : List PE} {n td : Nat} {fk br : Int32} (hfa : FaR h n td fk br) {pk : Nat → Int32} (hP : PcR h pk) {sd : Int32} (hs : bS sd) : CT G mX11_padAt 1 20 [.ref 3, .int sd] h (fun o => o = (some (.int (spPadAt pk sd)), h)) := by
  have f3 : h[3]? = some (cO 11 [.ref 4, .ref 6, .ref 15, .ref 16, .ref 21, .ref 25, .ref 32, .ref 35, .int (nI n), .int (nI td), .int fk, .int br]) := hfa
  obtain ⟨kn, z1, z2, z3, z4, z5, z6, f25, f26, f27, f28, f29, f30, f31, e6⟩ := hP
  show X (NF G) G mX11_padAt 1 20 0 [(0, .ref 3), (1, .int sd)] [] h _
  refine x_iload_n dX11_padAt_0 1 rfl ?_
  refine x_callS (rf' := 0) (rl' := 0) [.int sd] [] dX11_padAt_1 vX11_213 Y_X11_isSide rfl rfl (Nat.le_of_ble_eq_true rfl) (Nat.le_of_ble_eq_true rfl) (by decide) (by decide) c_isSide (fun _ _ e1 => ?_)
  cases e1
  rw [if_pos hs]
  refine x_if_eq (tgt := 19) dX11_padAt_4 (by decide) (fun c_4 => ?_) (fun c_4 => absurd (by decide) c_4)
  refine x_iconst (v := (-1)) dX11_padAt_19 (by decide) ?_
  exact x_iret dX11_padAt_20 rfl (by rw [spPadAt, if_pos hs])

set_option maxRecDepth 100000 in
set_option maxHeartbeats 4000000 in
theorem c_padAtG {G : GT} {h : List PE} {n td : Nat} {fk br : Int32} (hfa : FaR h n td fk br) {pk : Nat → Int32} (hP : PcR h pk) {k : Nat} (hk : k < 6) : CT G mX11_padAt 1 20 [.ref 3, .int (nI k)] h (fun o => o = (some (.int (spPadAt pk (nI k))), h)) := by
  have f3 : h[3]? = some (cO 11 [.ref 4, .ref 6, .ref 15, .ref 16, .ref 21, .ref 25, .ref 32, .ref 35, .int (nI n), .int (nI td), .int fk, .int br]) := hfa
  obtain ⟨kn, z1, z2, z3, z4, z5, z6, f25, f26, f27, f28, f29, f30, f31, e6⟩ := hP
  have hs : ¬ bS (nI k) := fun q => q.elim (nI_pos (by omega)) (fun q => absurd ((nI_leI (a := 6) (by decide) (by omega)).mp q) (by omega))
  show X (NF G) G mX11_padAt 1 20 0 [(0, .ref 3), (1, .int (nI k))] [] h _
  refine x_iload_n dX11_padAt_0 1 rfl ?_
  refine x_callS (rf' := 0) (rl' := 0) [.int (nI k)] [] dX11_padAt_1 vX11_213 Y_X11_isSide rfl rfl (Nat.le_of_ble_eq_true rfl) (Nat.le_of_ble_eq_true rfl) (by decide) (by decide) c_isSide (fun _ _ e1 => ?_)
  cases e1
  rw [if_neg hs]
  refine x_if_eq (tgt := 19) dX11_padAt_4 (by decide) (fun c_4 => absurd c_4 (by decide)) (fun c_4 => ?_)
  refine x_aload_n dX11_padAt_7 0 rfl ?_
  refine x_get (v := .ref 25) dX11_padAt_8 fX11_44 f3 (by decide) rfl ?_
  refine x_get (v := .ref 31) dX11_padAt_11 fX11_216 f25 (by decide) rfl ?_
  refine x_iload_n dX11_padAt_14 1 rfl ?_
  refine x_ialdN (i := k) dX11_padAt_15 f31 (by decide) (by omega) (by decide) ?_
  refine x_goto (tgt := 20) dX11_padAt_16 (by decide) ?_
  exact x_iret dX11_padAt_20 rfl (by rw [spPadAt, if_neg hs, nI_clamp (by omega), e6 k hk])

theorem c_padAt {G : GT} {h : List PE} {n td : Nat} {fk br : Int32} (hfa : FaR h n td fk br) {pk : Nat → Int32} (hP : PcR h pk) {sd : Int32} : CT G mX11_padAt 1 20 [.ref 3, .int sd] h (fun o => o = (some (.int (spPadAt pk sd)), h)) := by
  by_cases hs : bS sd
  · exact c_padAtB hfa hP hs
  · obtain ⟨k, hk, rfl⟩ := ix_of (m := 6) (by decide) hs
    exact c_padAtG hfa hP hk

set_option maxRecDepth 100000 in
set_option maxHeartbeats 4000000 in
theorem m_padAtB {G : GT} {h : List PE} {s : ST} (hM : MoR h s) {sd : Int32} (hs : bS sd) : CT G mX12_padAt 1 22 [.ref 36, .int sd] h (fun o => o.1 = some (.int (spPadAt (s_pk s) sd)) ∧ MoR o.2 s ∧ Sm [36] h o.2) := by
  obtain ⟨thr, siz, too, frm, knd, num, sgn, plc, wrd, tld, now, lst, pfo, thk, are, ipd, mt, bk, dy, nm, cv, sv, k1, k2, k3, k4, k5, k6, k7, f36, f37, f38, f39, f40, f41, f42, f43, f44, f45, f46, f47, f48, f49, r1, r2, r3⟩ := hM
  have sm0 : Sm [36] h h := Sm.rf
  skip
  have hi : sd < 0 ∨ (5 : Int32) < sd := (b5 sd).mpr hs
  show X (NF G) G mX12_padAt 1 22 0 [(0, .ref 36), (1, .int sd)] [] h _
  rcases r3 with ⟨r4, r5⟩ | ⟨r4, r5⟩
  · subst r4
    refine x_aload_n dX12_padAt_0 0 rfl ?_
    refine x_iconst (v := 0) dX12_padAt_1 (by decide) ?_
    refine x_put (fs2 := (MO 0 ((nI (s_tn s))) ((nI (s_td s))) ((nI (s_n s))) siz too frm knd num sgn ((s_fl s)) plc wrd tld now lst pfo thk are ((s_br s)) 0 ((s_bs s)))) dX12_padAt_2 fX12_55 (Or.inl rfl) f36 (by decide) rfl rfl (Nat.le_of_ble_eq_true rfl) rfl (fun h1 a2 e3 l4 s5 => ?_)
    have f6 := (e3 47 (by decide)).trans f47
    have sm7 := Sm.put sm0 e3 l4 s5 (by decide)
    refine x_aload_n dX12_padAt_5 0 rfl ?_
    refine x_get (v := .int 0) dX12_padAt_6 fX12_283 a2 (by decide) rfl ?_
    refine x_if_eq (tgt := 30) dX12_padAt_9 (by decide) (fun c_9 => ?_) (fun c_9 => absurd (by decide) c_9)
    refine x_iconst (v := (-1)) dX12_padAt_30 (by decide) ?_
    exact x_iret dX12_padAt_31 rfl ⟨by rw [spPadAt, if_pos hs], (moR a2 (sm7.at f37 (by decide)) (sm7.at f38 (by decide)) (sm7.at f39 (by decide)) (sm7.at f40 (by decide)) (sm7.at f41 (by decide)) (sm7.at f42 (by decide)) (sm7.at f43 (by decide)) (sm7.at f44 (by decide)) (sm7.at f45 (by decide)) (sm7.at f46 (by decide)) (sm7.at f47 (by decide)) (sm7.at f48 (by decide)) (sm7.at f49 (by decide)) r1 r2 (Or.inl ⟨rfl, r5⟩)), sm7⟩
  · subst r4
    refine x_aload_n dX12_padAt_0 0 rfl ?_
    refine x_iconst (v := 0) dX12_padAt_1 (by decide) ?_
    refine x_put (fs2 := (MO 0 ((nI (s_tn s))) ((nI (s_td s))) ((nI (s_n s))) siz too frm knd num sgn ((s_fl s)) plc wrd tld now lst pfo thk are ((s_br s)) 1 ((s_bs s)))) dX12_padAt_2 fX12_55 (Or.inl rfl) f36 (by decide) rfl rfl (Nat.le_of_ble_eq_true rfl) rfl (fun h1 a2 e3 l4 s5 => ?_)
    have f6 := (e3 47 (by decide)).trans f47
    have sm7 := Sm.put sm0 e3 l4 s5 (by decide)
    refine x_aload_n dX12_padAt_5 0 rfl ?_
    refine x_get (v := .int 1) dX12_padAt_6 fX12_283 a2 (by decide) rfl ?_
    refine x_if_eq (tgt := 30) dX12_padAt_9 (by decide) (fun c_9 => absurd c_9 (by decide)) (fun c_9 => ?_)
    refine x_iload_n dX12_padAt_12 1 rfl ?_
    refine x_iconst (v := 0) dX12_padAt_13 (by decide) ?_
    refine x_iconst (v := 5) dX12_padAt_14 (by decide) ?_
    refine x_callS (rf' := 0) (rl' := 0) [.int sd, .int 0, .int 5] [] dX12_padAt_15 vX12_65 Y_X12_isIn rfl rfl (Nat.le_of_ble_eq_true rfl) (Nat.le_of_ble_eq_true rfl) (by decide) (by decide) c_isIn (fun _ _ e1 => ?_)
    cases e1
    rw [if_pos hi]
    refine x_if_eq (tgt := 30) dX12_padAt_18 (by decide) (fun c_18 => ?_) (fun c_18 => absurd (by decide) c_18)
    refine x_iconst (v := (-1)) dX12_padAt_30 (by decide) ?_
    exact x_iret dX12_padAt_31 rfl ⟨by rw [spPadAt, if_pos hs], (moR a2 (sm7.at f37 (by decide)) (sm7.at f38 (by decide)) (sm7.at f39 (by decide)) (sm7.at f40 (by decide)) (sm7.at f41 (by decide)) (sm7.at f42 (by decide)) (sm7.at f43 (by decide)) (sm7.at f44 (by decide)) (sm7.at f45 (by decide)) (sm7.at f46 (by decide)) (sm7.at f47 (by decide)) (sm7.at f48 (by decide)) (sm7.at f49 (by decide)) r1 r2 (Or.inr ⟨rfl, r5⟩)), sm7⟩

set_option maxRecDepth 100000 in
set_option maxHeartbeats 4000000 in
theorem m_padAtG {G : GT} {h : List PE} {s : ST} (hM : MoR h s) {k : Nat} (hk : k < 6) : CT G mX12_padAt 1 22 [.ref 36, .int (nI k)] h (fun o => o.1 = some (.int (spPadAt (s_pk s) (nI k))) ∧ MoR o.2 s ∧ Sm [36] h o.2) := by
  obtain ⟨thr, siz, too, frm, knd, num, sgn, plc, wrd, tld, now, lst, pfo, thk, are, ipd, mt, bk, dy, nm, cv, sv, k1, k2, k3, k4, k5, k6, k7, f36, f37, f38, f39, f40, f41, f42, f43, f44, f45, f46, f47, f48, f49, r1, r2, r3⟩ := hM
  have sm0 : Sm [36] h h := Sm.rf
  have hs : ¬ bS (nI k) := fun q => q.elim (nI_pos (by omega)) (fun q => absurd ((nI_leI (a := 6) (by decide) (by omega)).mp q) (by omega))
  have hi : ¬ (nI k < 0 ∨ (5 : Int32) < nI k) := fun q => hs ((b5 _).mp q)
  show X (NF G) G mX12_padAt 1 22 0 [(0, .ref 36), (1, .int (nI k))] [] h _
  rcases r3 with ⟨r4, r5⟩ | ⟨r4, r5⟩
  · subst r4
    refine x_aload_n dX12_padAt_0 0 rfl ?_
    refine x_iconst (v := 0) dX12_padAt_1 (by decide) ?_
    refine x_put (fs2 := (MO 0 ((nI (s_tn s))) ((nI (s_td s))) ((nI (s_n s))) siz too frm knd num sgn ((s_fl s)) plc wrd tld now lst pfo thk are ((s_br s)) 0 ((s_bs s)))) dX12_padAt_2 fX12_55 (Or.inl rfl) f36 (by decide) rfl rfl (Nat.le_of_ble_eq_true rfl) rfl (fun h1 a2 e3 l4 s5 => ?_)
    have f6 := (e3 47 (by decide)).trans f47
    have sm7 := Sm.put sm0 e3 l4 s5 (by decide)
    refine x_aload_n dX12_padAt_5 0 rfl ?_
    refine x_get (v := .int 0) dX12_padAt_6 fX12_283 a2 (by decide) rfl ?_
    refine x_if_eq (tgt := 30) dX12_padAt_9 (by decide) (fun c_9 => ?_) (fun c_9 => absurd (by decide) c_9)
    refine x_iconst (v := (-1)) dX12_padAt_30 (by decide) ?_
    exact x_iret dX12_padAt_31 rfl ⟨by rw [spPadAt, if_neg hs, nI_clamp (by omega), r5 k hk], (moR a2 (sm7.at f37 (by decide)) (sm7.at f38 (by decide)) (sm7.at f39 (by decide)) (sm7.at f40 (by decide)) (sm7.at f41 (by decide)) (sm7.at f42 (by decide)) (sm7.at f43 (by decide)) (sm7.at f44 (by decide)) (sm7.at f45 (by decide)) (sm7.at f46 (by decide)) (sm7.at f47 (by decide)) (sm7.at f48 (by decide)) (sm7.at f49 (by decide)) r1 r2 (Or.inl ⟨rfl, r5⟩)), sm7⟩
  · subst r4
    refine x_aload_n dX12_padAt_0 0 rfl ?_
    refine x_iconst (v := 0) dX12_padAt_1 (by decide) ?_
    refine x_put (fs2 := (MO 0 ((nI (s_tn s))) ((nI (s_td s))) ((nI (s_n s))) siz too frm knd num sgn ((s_fl s)) plc wrd tld now lst pfo thk are ((s_br s)) 1 ((s_bs s)))) dX12_padAt_2 fX12_55 (Or.inl rfl) f36 (by decide) rfl rfl (Nat.le_of_ble_eq_true rfl) rfl (fun h1 a2 e3 l4 s5 => ?_)
    have f6 := (e3 47 (by decide)).trans f47
    have sm7 := Sm.put sm0 e3 l4 s5 (by decide)
    refine x_aload_n dX12_padAt_5 0 rfl ?_
    refine x_get (v := .int 1) dX12_padAt_6 fX12_283 a2 (by decide) rfl ?_
    refine x_if_eq (tgt := 30) dX12_padAt_9 (by decide) (fun c_9 => absurd c_9 (by decide)) (fun c_9 => ?_)
    refine x_iload_n dX12_padAt_12 1 rfl ?_
    refine x_iconst (v := 0) dX12_padAt_13 (by decide) ?_
    refine x_iconst (v := 5) dX12_padAt_14 (by decide) ?_
    refine x_callS (rf' := 0) (rl' := 0) [.int (nI k), .int 0, .int 5] [] dX12_padAt_15 vX12_65 Y_X12_isIn rfl rfl (Nat.le_of_ble_eq_true rfl) (Nat.le_of_ble_eq_true rfl) (by decide) (by decide) c_isIn (fun _ _ e1 => ?_)
    cases e1
    rw [if_neg hi]
    refine x_if_eq (tgt := 30) dX12_padAt_18 (by decide) (fun c_18 => absurd c_18 (by decide)) (fun c_18 => ?_)
    refine x_aload_n dX12_padAt_21 0 rfl ?_
    refine x_get (v := .ref 47) dX12_padAt_22 fX12_45 a2 (by decide) rfl ?_
    refine x_iload_n dX12_padAt_25 1 rfl ?_
    refine x_ialdN (i := k) dX12_padAt_26 f6 (by decide) (by omega) (by decide) ?_
    refine x_goto (tgt := 31) dX12_padAt_27 (by decide) ?_
    exact x_iret dX12_padAt_31 rfl ⟨by rw [spPadAt, if_neg hs, nI_clamp (by omega), ← r5 k hk], (moR a2 (sm7.at f37 (by decide)) (sm7.at f38 (by decide)) (sm7.at f39 (by decide)) (sm7.at f40 (by decide)) (sm7.at f41 (by decide)) (sm7.at f42 (by decide)) (sm7.at f43 (by decide)) (sm7.at f44 (by decide)) (sm7.at f45 (by decide)) (sm7.at f46 (by decide)) (sm7.at f47 (by decide)) (sm7.at f48 (by decide)) (sm7.at f49 (by decide)) r1 r2 (Or.inr ⟨rfl, r5⟩)), sm7⟩

theorem m_padAt {G : GT} {h : List PE} {s : ST} (hM : MoR h s) {sd : Int32} : CT G mX12_padAt 1 22 [.ref 36, .int sd] h (fun o => o.1 = some (.int (spPadAt (s_pk s) sd)) ∧ MoR o.2 s ∧ Sm [36] h o.2) := by
  by_cases hs : bS sd
  · exact m_padAtB hM hs
  · obtain ⟨k, hk, rfl⟩ := ix_of (m := 6) (by decide) hs
    exact m_padAtG hM hk

theorem tv_step {tb : Nat → Int32} {tv : Nat → Nat} {k v : Nat} {z : Int32} (h : ∀ j, j < k → tb j &&& 255 = nI (tv j)) (hz : z &&& 255 = nI v) : ∀ j, j < k + 1 → upd tb k z j &&& 255 = nI (tvU tv k v j) := fun j hj => by
  unfold tvU
  by_cases e : j = k
  · subst e; rw [pk_us, if_pos rfl]; exact hz
  · rw [pk_un e, if_neg e]; exact h j (by omega)
theorem tv_stepM {tb : Nat → Int32} {tv : Nat → Nat} {k v : Nat} {z : Int32} (h : ∀ j, j < k → tb j = nI (tv j)) (hz : z = nI v) : ∀ j, j < k + 1 → upd tb k z j = nI (tvU tv k v j) := fun j hj => by
  unfold tvU
  by_cases e : j = k
  · subst e; rw [pk_us, if_pos rfl]; exact hz
  · rw [pk_un e, if_neg e]; exact h j (by omega)

set_option maxRecDepth 100000 in
set_option maxHeartbeats 4000000 in
theorem c_tadd {G : GT} {h : List PE} {tn : Nat} {tv : Nat → Nat} {x : Int32} (hT : TpR h tn tv) (htn : tn + 4 ≤ 640) : CT G mX8_add 0 0 [.ref 4, .int x] h (fun o => o.1 = none ∧ TpR o.2 (tn + 4) (tvW tv tn x) ∧ Sm [4, 5] h o.2) := by
  obtain ⟨tb, f4, f5, e5⟩ := hT
  have sm0 : Sm [4, 5] h h := Sm.rf
  show X (NF G) G mX8_add 0 0 0 [(0, .ref 4), (1, .int x)] [] h _
  refine x_bipush (v := 24) dX8_add_0 (by decide) ?_
  refine x_istore_n (lv2 := [(2, .int 24), (0, .ref 4), (1, .int x)]) dX8_add_2 (by decide) rfl ?_
  refine x_iload_n dX8_add_3 0 rfl ?_
  refine x_if_lt (tgt := 46) dX8_add_4 (by decide) (fun c_4 => absurd c_4 (by decide)) (fun c_4 => ?_)
  refine x_aload_n dX8_add_7 1 rfl ?_
  refine x_get (v := .int (nI tn)) dX8_add_8 fX8_15 f4 (by decide) rfl ?_
  refine x_sipush (v := 640) dX8_add_11 (by decide) ?_
  refine x_icmp_geN (tgt := 46) (a := tn) (b := 640) (by omega) (by omega) dX8_add_14 (by decide) (fun c_14 => absurd c_14 (by omega)) (fun c_14 => ?_)
  refine x_aload_n dX8_add_17 1 rfl ?_
  refine x_get (v := .ref 5) dX8_add_18 fX8_11 f4 (by decide) rfl ?_
  refine x_aload_n dX8_add_21 1 rfl ?_
  refine x_get (v := .int (nI tn)) dX8_add_22 fX8_15 f4 (by decide) rfl ?_
  refine x_iload_n dX8_add_25 2 rfl ?_
  refine x_iload_n dX8_add_26 0 rfl ?_
  refine x_ishr dX8_add_27 ?_
  refine x_i2b dX8_add_28 ?_
  refine x_bastN (i := tn) dX8_add_29 f5 (by decide) (by omega) (by decide) (fun h1 a2 e3 l4 s5 => ?_)
  have f6 := (e3 4 (by decide)).trans f4
  have sm7 := Sm.put sm0 e3 l4 s5 (by decide)
  refine x_aload_n dX8_add_30 1 rfl ?_
  refine x_dup dX8_add_31 rfl ?_
  refine x_get (v := .int (nI tn)) dX8_add_32 fX8_15 f6 (by decide) rfl ?_
  refine x_iconst (v := 1) dX8_add_35 (by decide) ?_
  refine x_iaddN (a := tn) (b := 1) dX8_add_36 ?_
  refine x_put (fs2 := [.ref 5, .int (nI (tn + 1))]) dX8_add_37 fX8_15 (Or.inl rfl) f6 (by decide) rfl rfl (Nat.le_of_ble_eq_true rfl) rfl (fun h8 a9 e10 l11 s12 => ?_)
  have f13 := (e10 5 (by decide)).trans a2
  have sm14 := Sm.put sm7 e10 l11 s12 (by decide)
  refine x_iinc (lv2 := [(2, .int 16), (0, .ref 4), (1, .int x)]) dX8_add_40 0 rfl (by decide) (by decide) rfl ?_
  refine x_goto (tgt := 3) dX8_add_43 (by decide) ?_
  refine x_iload_n dX8_add_3 0 rfl ?_
  refine x_if_lt (tgt := 46) dX8_add_4 (by decide) (fun c_4 => absurd c_4 (by decide)) (fun c_4 => ?_)
  refine x_aload_n dX8_add_7 1 rfl ?_
  refine x_get (v := .int (nI (tn + 1))) dX8_add_8 fX8_15 a9 (by decide) rfl ?_
  refine x_sipush (v := 640) dX8_add_11 (by decide) ?_
  refine x_icmp_geN (tgt := 46) (a := (tn + 1)) (b := 640) (by omega) (by omega) dX8_add_14 (by decide) (fun c_14 => absurd c_14 (by omega)) (fun c_14 => ?_)
  refine x_aload_n dX8_add_17 1 rfl ?_
  refine x_get (v := .ref 5) dX8_add_18 fX8_11 a9 (by decide) rfl ?_
  refine x_aload_n dX8_add_21 1 rfl ?_
  refine x_get (v := .int (nI (tn + 1))) dX8_add_22 fX8_15 a9 (by decide) rfl ?_
  refine x_iload_n dX8_add_25 2 rfl ?_
  refine x_iload_n dX8_add_26 0 rfl ?_
  refine x_ishr dX8_add_27 ?_
  refine x_i2b dX8_add_28 ?_
  refine x_bastN (i := (tn + 1)) dX8_add_29 f13 (by decide) (by omega) (by decide) (fun h15 a16 e17 l18 s19 => ?_)
  have f20 := (e17 4 (by decide)).trans a9
  have sm21 := Sm.put sm14 e17 l18 s19 (by decide)
  refine x_aload_n dX8_add_30 1 rfl ?_
  refine x_dup dX8_add_31 rfl ?_
  refine x_get (v := .int (nI (tn + 1))) dX8_add_32 fX8_15 f20 (by decide) rfl ?_
  refine x_iconst (v := 1) dX8_add_35 (by decide) ?_
  refine x_iaddN (a := (tn + 1)) (b := 1) dX8_add_36 ?_
  refine x_put (fs2 := [.ref 5, .int (nI ((tn + 1) + 1))]) dX8_add_37 fX8_15 (Or.inl rfl) f20 (by decide) rfl rfl (Nat.le_of_ble_eq_true rfl) rfl (fun h22 a23 e24 l25 s26 => ?_)
  have f27 := (e24 5 (by decide)).trans a16
  have sm28 := Sm.put sm21 e24 l25 s26 (by decide)
  refine x_iinc (lv2 := [(2, .int 8), (0, .ref 4), (1, .int x)]) dX8_add_40 0 rfl (by decide) (by decide) rfl ?_
  refine x_goto (tgt := 3) dX8_add_43 (by decide) ?_
  refine x_iload_n dX8_add_3 0 rfl ?_
  refine x_if_lt (tgt := 46) dX8_add_4 (by decide) (fun c_4 => absurd c_4 (by decide)) (fun c_4 => ?_)
  refine x_aload_n dX8_add_7 1 rfl ?_
  refine x_get (v := .int (nI ((tn + 1) + 1))) dX8_add_8 fX8_15 a23 (by decide) rfl ?_
  refine x_sipush (v := 640) dX8_add_11 (by decide) ?_
  refine x_icmp_geN (tgt := 46) (a := ((tn + 1) + 1)) (b := 640) (by omega) (by omega) dX8_add_14 (by decide) (fun c_14 => absurd c_14 (by omega)) (fun c_14 => ?_)
  refine x_aload_n dX8_add_17 1 rfl ?_
  refine x_get (v := .ref 5) dX8_add_18 fX8_11 a23 (by decide) rfl ?_
  refine x_aload_n dX8_add_21 1 rfl ?_
  refine x_get (v := .int (nI ((tn + 1) + 1))) dX8_add_22 fX8_15 a23 (by decide) rfl ?_
  refine x_iload_n dX8_add_25 2 rfl ?_
  refine x_iload_n dX8_add_26 0 rfl ?_
  refine x_ishr dX8_add_27 ?_
  refine x_i2b dX8_add_28 ?_
  refine x_bastN (i := ((tn + 1) + 1)) dX8_add_29 f27 (by decide) (by omega) (by decide) (fun h29 a30 e31 l32 s33 => ?_)
  have f34 := (e31 4 (by decide)).trans a23
  have sm35 := Sm.put sm28 e31 l32 s33 (by decide)
  refine x_aload_n dX8_add_30 1 rfl ?_
  refine x_dup dX8_add_31 rfl ?_
  refine x_get (v := .int (nI ((tn + 1) + 1))) dX8_add_32 fX8_15 f34 (by decide) rfl ?_
  refine x_iconst (v := 1) dX8_add_35 (by decide) ?_
  refine x_iaddN (a := ((tn + 1) + 1)) (b := 1) dX8_add_36 ?_
  refine x_put (fs2 := [.ref 5, .int (nI (((tn + 1) + 1) + 1))]) dX8_add_37 fX8_15 (Or.inl rfl) f34 (by decide) rfl rfl (Nat.le_of_ble_eq_true rfl) rfl (fun h36 a37 e38 l39 s40 => ?_)
  have f41 := (e38 5 (by decide)).trans a30
  have sm42 := Sm.put sm35 e38 l39 s40 (by decide)
  refine x_iinc (lv2 := [(2, .int 0), (0, .ref 4), (1, .int x)]) dX8_add_40 0 rfl (by decide) (by decide) rfl ?_
  refine x_goto (tgt := 3) dX8_add_43 (by decide) ?_
  refine x_iload_n dX8_add_3 0 rfl ?_
  refine x_if_lt (tgt := 46) dX8_add_4 (by decide) (fun c_4 => absurd c_4 (by decide)) (fun c_4 => ?_)
  refine x_aload_n dX8_add_7 1 rfl ?_
  refine x_get (v := .int (nI (((tn + 1) + 1) + 1))) dX8_add_8 fX8_15 a37 (by decide) rfl ?_
  refine x_sipush (v := 640) dX8_add_11 (by decide) ?_
  refine x_icmp_geN (tgt := 46) (a := (((tn + 1) + 1) + 1)) (b := 640) (by omega) (by omega) dX8_add_14 (by decide) (fun c_14 => absurd c_14 (by omega)) (fun c_14 => ?_)
  refine x_aload_n dX8_add_17 1 rfl ?_
  refine x_get (v := .ref 5) dX8_add_18 fX8_11 a37 (by decide) rfl ?_
  refine x_aload_n dX8_add_21 1 rfl ?_
  refine x_get (v := .int (nI (((tn + 1) + 1) + 1))) dX8_add_22 fX8_15 a37 (by decide) rfl ?_
  refine x_iload_n dX8_add_25 2 rfl ?_
  refine x_iload_n dX8_add_26 0 rfl ?_
  refine x_ishr dX8_add_27 ?_
  refine x_i2b dX8_add_28 ?_
  refine x_bastN (i := (((tn + 1) + 1) + 1)) dX8_add_29 f41 (by decide) (by omega) (by decide) (fun h43 a44 e45 l46 s47 => ?_)
  have f48 := (e45 4 (by decide)).trans a37
  have sm49 := Sm.put sm42 e45 l46 s47 (by decide)
  refine x_aload_n dX8_add_30 1 rfl ?_
  refine x_dup dX8_add_31 rfl ?_
  refine x_get (v := .int (nI (((tn + 1) + 1) + 1))) dX8_add_32 fX8_15 f48 (by decide) rfl ?_
  refine x_iconst (v := 1) dX8_add_35 (by decide) ?_
  refine x_iaddN (a := (((tn + 1) + 1) + 1)) (b := 1) dX8_add_36 ?_
  refine x_put (fs2 := [.ref 5, .int (nI ((((tn + 1) + 1) + 1) + 1))]) dX8_add_37 fX8_15 (Or.inl rfl) f48 (by decide) rfl rfl (Nat.le_of_ble_eq_true rfl) rfl (fun h50 a51 e52 l53 s54 => ?_)
  have f55 := (e52 5 (by decide)).trans a44
  have sm56 := Sm.put sm49 e52 l53 s54 (by decide)
  refine x_iinc (lv2 := [(2, .int (-8)), (0, .ref 4), (1, .int x)]) dX8_add_40 0 rfl (by decide) (by decide) rfl ?_
  refine x_goto (tgt := 3) dX8_add_43 (by decide) ?_
  refine x_iload_n dX8_add_3 0 rfl ?_
  refine x_if_lt (tgt := 46) dX8_add_4 (by decide) (fun c_4 => ?_) (fun c_4 => absurd (by decide) c_4)
  exact x_vret dX8_add_46 rfl ⟨rfl, ⟨_, a51, f55, tv_step (tv_step (tv_step (tv_step e5 (by_cls _ _ 3 (by decide) (by decide))) (by_cls _ _ 2 (by decide) (by decide))) (by_cls _ _ 1 (by decide) (by decide))) (by_cls _ _ 0 (by decide) (by decide))⟩, sm56⟩

def tvF (tv : Nat → Nat) (tn : Nat) (a b c d e : Int32) : Nat → Nat := tvW (tvW (tvW (tvW (tvW tv tn a) (tn + 4) b) (tn + 8) c) (tn + 12) d) (tn + 16) e
def spFeed (tn : Nat) : Int32 := if 640 < tn + 20 then -1 else nI (tn + 20)
def spFeedN (tn : Nat) : Nat := if 640 < tn + 20 then tn else tn + 20
def spFeedV (tv : Nat → Nat) (tn : Nat) (a b c d e : Int32) : Nat → Nat := if 640 < tn + 20 then tv else tvF tv tn a b c d e

set_option maxRecDepth 100000 in
set_option maxHeartbeats 4000000 in
theorem c_feed {G : GT} {h : List PE} {n td : Nat} {fk br : Int32} (hfa : FaR h n td fk br) {tn : Nat} {tv : Nat → Nat} (hT : TpR h tn tv) (htn : tn ≤ 640) {xa xb xc xd xe : Int32} : CT G mX11_feed 1 22 [.ref 3, .int xa, .int xb, .int xc, .int xd, .int xe] h (fun o => o.1 = some (.int (spFeed tn)) ∧ TpR o.2 (spFeedN tn) (spFeedV tv tn xa xb xc xd xe) ∧ Sm [4, 5] h o.2) := by
  have f3 : h[3]? = some (cO 11 [.ref 4, .ref 6, .ref 15, .ref 16, .ref 21, .ref 25, .ref 32, .ref 35, .int (nI n), .int (nI td), .int fk, .int br]) := hfa
  obtain ⟨tb, f4, -⟩ := id hT
  have sm0 : Sm [4, 5] h h := Sm.rf
  show X (NF G) G mX11_feed 1 22 0 [(0, .ref 3), (1, .int xa), (2, .int xb), (3, .int xc), (4, .int xd), (5, .int xe)] [] h _
  refine x_aload_n dX11_feed_0 0 rfl ?_
  refine x_get (v := .ref 4) dX11_feed_1 fX11_10 f3 (by decide) rfl ?_
  refine x_get (v := .int (nI tn)) dX11_feed_4 fX11_72 f4 (by decide) rfl ?_
  refine x_bipush (v := 20) dX11_feed_7 (by decide) ?_
  refine x_iaddN (a := tn) (b := 20) dX11_feed_9 ?_
  refine x_sipush (v := 640) dX11_feed_10 (by decide) ?_
  refine x_icmp_leN (tgt := 18) (a := (tn + 20)) (b := 640) (by omega) (by omega) dX11_feed_13 (by decide) (fun c_13 => ?_) (fun c_13 => ?_)
  · refine x_aload_n dX11_feed_18 0 rfl ?_
    refine x_get (v := .ref 4) dX11_feed_19 fX11_10 f3 (by decide) rfl ?_
    refine x_iload_n dX11_feed_22 1 rfl ?_
    refine x_callV (rf' := 0) (rl' := 0) [.int xa] [] dX11_feed_23 vX11_75 Y_X8_add f4 (by decide) rfl rfl (Nat.le_of_ble_eq_true rfl) (Nat.le_of_ble_eq_true rfl) (by decide) (by decide) (c_tadd hT (by omega)) (fun r h09 e1 => ?_)
    obtain ⟨e0, T0, sm09⟩ := e1
    cases e0
    have f30 := sm09.at f3 (by decide)
    have sq0 := sm0.tr sm09
    obtain ⟨tb0, f40, -⟩ := id T0
    refine x_aload_n dX11_feed_26 0 rfl ?_
    refine x_get (v := .ref 4) dX11_feed_27 fX11_10 f30 (by decide) rfl ?_
    refine x_iload_n dX11_feed_30 2 rfl ?_
    refine x_callV (rf' := 0) (rl' := 0) [.int xb] [] dX11_feed_31 vX11_75 Y_X8_add f40 (by decide) rfl rfl (Nat.le_of_ble_eq_true rfl) (Nat.le_of_ble_eq_true rfl) (by decide) (by decide) (c_tadd T0 (by omega)) (fun r h19 e1 => ?_)
    obtain ⟨e0, T1, sm19⟩ := e1
    cases e0
    have f31 := sm19.at f30 (by decide)
    have sq1 := sq0.tr sm19
    obtain ⟨tb1, f41, -⟩ := id T1
    refine x_aload_n dX11_feed_34 0 rfl ?_
    refine x_get (v := .ref 4) dX11_feed_35 fX11_10 f31 (by decide) rfl ?_
    refine x_iload_n dX11_feed_38 3 rfl ?_
    refine x_callV (rf' := 0) (rl' := 0) [.int xc] [] dX11_feed_39 vX11_75 Y_X8_add f41 (by decide) rfl rfl (Nat.le_of_ble_eq_true rfl) (Nat.le_of_ble_eq_true rfl) (by decide) (by decide) (c_tadd T1 (by omega)) (fun r h29 e1 => ?_)
    obtain ⟨e0, T2, sm29⟩ := e1
    cases e0
    have f32 := sm29.at f31 (by decide)
    have sq2 := sq1.tr sm29
    obtain ⟨tb2, f42, -⟩ := id T2
    refine x_aload_n dX11_feed_42 0 rfl ?_
    refine x_get (v := .ref 4) dX11_feed_43 fX11_10 f32 (by decide) rfl ?_
    refine x_iload dX11_feed_46 4 rfl ?_
    refine x_callV (rf' := 0) (rl' := 0) [.int xd] [] dX11_feed_48 vX11_75 Y_X8_add f42 (by decide) rfl rfl (Nat.le_of_ble_eq_true rfl) (Nat.le_of_ble_eq_true rfl) (by decide) (by decide) (c_tadd T2 (by omega)) (fun r h39 e1 => ?_)
    obtain ⟨e0, T3, sm39⟩ := e1
    cases e0
    have f33 := sm39.at f32 (by decide)
    have sq3 := sq2.tr sm39
    obtain ⟨tb3, f43, -⟩ := id T3
    refine x_aload_n dX11_feed_51 0 rfl ?_
    refine x_get (v := .ref 4) dX11_feed_52 fX11_10 f33 (by decide) rfl ?_
    refine x_iload dX11_feed_55 5 rfl ?_
    refine x_callV (rf' := 0) (rl' := 0) [.int xe] [] dX11_feed_57 vX11_75 Y_X8_add f43 (by decide) rfl rfl (Nat.le_of_ble_eq_true rfl) (Nat.le_of_ble_eq_true rfl) (by decide) (by decide) (c_tadd T3 (by omega)) (fun r h49 e1 => ?_)
    obtain ⟨e0, T4, sm49⟩ := e1
    cases e0
    have f34 := sm49.at f33 (by decide)
    have sq4 := sq3.tr sm49
    obtain ⟨tb4, f44, -⟩ := id T4
    refine x_aload_n dX11_feed_60 0 rfl ?_
    refine x_get (v := .ref 4) dX11_feed_61 fX11_10 f34 (by decide) rfl ?_
    refine x_get (v := .int (nI (tn + 20))) dX11_feed_64 fX11_72 f44 (by decide) rfl ?_
    exact x_iret dX11_feed_67 rfl ⟨by rw [spFeed, if_neg (by omega)], by rw [spFeedN, spFeedV, if_neg (by omega), if_neg (by omega)]; exact T4, sq4⟩
  · refine x_iconst (v := (-1)) dX11_feed_16 (by decide) ?_
    exact x_iret dX11_feed_17 rfl ⟨by rw [spFeed, if_pos (by omega)], by rw [spFeedN, spFeedV, if_pos (by omega), if_pos (by omega)]; exact hT, Sm.rf⟩

set_option maxRecDepth 100000 in
set_option maxHeartbeats 4000000 in
theorem c_come {G : GT} {h : List PE} {thr tdy bks siz too frm knd num sgn flt plc tld now lst pfo thk are brk ipd bst : Int32} {wrd : Int64} {tn : Nat} {tv : Nat → Nat} {mt : Nat → Int32} {x : Int32} (f36 : h[36]? = some (cO 12 (MO thr ((nI tn)) tdy bks siz too frm knd num sgn flt plc wrd tld now lst pfo thk are brk ipd bst))) (f37 : h[37]? = some (cI 640 mt)) (e5 : ∀ j, j < tn → mt j = nI (tv j)) (htn : tn + 4 ≤ 640) : CT G mX12_come 0 0 [.ref 36, .int x] h (fun o => o.1 = none ∧ o.2[36]? = some (cO 12 (MO thr ((nI (tn + 4))) tdy bks siz too frm knd num sgn flt plc wrd tld now lst pfo thk are brk ipd bst)) ∧ (∃ mt2, o.2[37]? = some (cI 640 mt2) ∧ ∀ j, j < tn + 4 → mt2 j = nI (tvW tv tn x j)) ∧ Sm [36, 37] h o.2) := by
  have sm0 : Sm [36, 37] h h := Sm.rf
  show X (NF G) G mX12_come 0 0 0 [(0, .ref 36), (1, .int x)] [] h _
  refine x_bipush (v := 24) dX12_come_0 (by decide) ?_
  refine x_istore_n (lv2 := [(2, .int 24), (0, .ref 36), (1, .int x)]) dX12_come_2 (by decide) rfl ?_
  refine x_iload_n dX12_come_3 0 rfl ?_
  refine x_if_lt (tgt := 39) dX12_come_4 (by decide) (fun c_4 => absurd c_4 (by decide)) (fun c_4 => ?_)
  refine x_aload_n dX12_come_7 1 rfl ?_
  refine x_get (v := .ref 37) dX12_come_8 fX12_7 f36 (by decide) rfl ?_
  refine x_aload_n dX12_come_11 1 rfl ?_
  refine x_get (v := .int (nI tn)) dX12_come_12 fX12_58 f36 (by decide) rfl ?_
  refine x_iload_n dX12_come_15 2 rfl ?_
  refine x_iload_n dX12_come_16 0 rfl ?_
  refine x_iushr dX12_come_17 ?_
  refine x_sipush (v := 255) dX12_come_18 (by decide) ?_
  refine x_iand dX12_come_21 ?_
  refine x_iastN (i := tn) dX12_come_22 f37 (by decide) (by omega) (by decide) (fun h1 a2 e3 l4 s5 => ?_)
  have f6 := (e3 36 (by decide)).trans f36
  have sm7 := Sm.put sm0 e3 l4 s5 (by decide)
  refine x_aload_n dX12_come_23 1 rfl ?_
  refine x_dup dX12_come_24 rfl ?_
  refine x_get (v := .int (nI tn)) dX12_come_25 fX12_58 f6 (by decide) rfl ?_
  refine x_iconst (v := 1) dX12_come_28 (by decide) ?_
  refine x_iaddN (a := tn) (b := 1) dX12_come_29 ?_
  refine x_put (fs2 := (MO thr ((nI (tn + 1))) tdy bks siz too frm knd num sgn flt plc wrd tld now lst pfo thk are brk ipd bst)) dX12_come_30 fX12_58 (Or.inl rfl) f6 (by decide) rfl rfl (Nat.le_of_ble_eq_true rfl) rfl (fun h8 a9 e10 l11 s12 => ?_)
  have f13 := (e10 37 (by decide)).trans a2
  have sm14 := Sm.put sm7 e10 l11 s12 (by decide)
  refine x_iinc (lv2 := [(2, .int 16), (0, .ref 36), (1, .int x)]) dX12_come_33 0 rfl (by decide) (by decide) rfl ?_
  refine x_goto (tgt := 3) dX12_come_36 (by decide) ?_
  refine x_iload_n dX12_come_3 0 rfl ?_
  refine x_if_lt (tgt := 39) dX12_come_4 (by decide) (fun c_4 => absurd c_4 (by decide)) (fun c_4 => ?_)
  refine x_aload_n dX12_come_7 1 rfl ?_
  refine x_get (v := .ref 37) dX12_come_8 fX12_7 a9 (by decide) rfl ?_
  refine x_aload_n dX12_come_11 1 rfl ?_
  refine x_get (v := .int (nI (tn + 1))) dX12_come_12 fX12_58 a9 (by decide) rfl ?_
  refine x_iload_n dX12_come_15 2 rfl ?_
  refine x_iload_n dX12_come_16 0 rfl ?_
  refine x_iushr dX12_come_17 ?_
  refine x_sipush (v := 255) dX12_come_18 (by decide) ?_
  refine x_iand dX12_come_21 ?_
  refine x_iastN (i := (tn + 1)) dX12_come_22 f13 (by decide) (by omega) (by decide) (fun h15 a16 e17 l18 s19 => ?_)
  have f20 := (e17 36 (by decide)).trans a9
  have sm21 := Sm.put sm14 e17 l18 s19 (by decide)
  refine x_aload_n dX12_come_23 1 rfl ?_
  refine x_dup dX12_come_24 rfl ?_
  refine x_get (v := .int (nI (tn + 1))) dX12_come_25 fX12_58 f20 (by decide) rfl ?_
  refine x_iconst (v := 1) dX12_come_28 (by decide) ?_
  refine x_iaddN (a := (tn + 1)) (b := 1) dX12_come_29 ?_
  refine x_put (fs2 := (MO thr ((nI ((tn + 1) + 1))) tdy bks siz too frm knd num sgn flt plc wrd tld now lst pfo thk are brk ipd bst)) dX12_come_30 fX12_58 (Or.inl rfl) f20 (by decide) rfl rfl (Nat.le_of_ble_eq_true rfl) rfl (fun h22 a23 e24 l25 s26 => ?_)
  have f27 := (e24 37 (by decide)).trans a16
  have sm28 := Sm.put sm21 e24 l25 s26 (by decide)
  refine x_iinc (lv2 := [(2, .int 8), (0, .ref 36), (1, .int x)]) dX12_come_33 0 rfl (by decide) (by decide) rfl ?_
  refine x_goto (tgt := 3) dX12_come_36 (by decide) ?_
  refine x_iload_n dX12_come_3 0 rfl ?_
  refine x_if_lt (tgt := 39) dX12_come_4 (by decide) (fun c_4 => absurd c_4 (by decide)) (fun c_4 => ?_)
  refine x_aload_n dX12_come_7 1 rfl ?_
  refine x_get (v := .ref 37) dX12_come_8 fX12_7 a23 (by decide) rfl ?_
  refine x_aload_n dX12_come_11 1 rfl ?_
  refine x_get (v := .int (nI ((tn + 1) + 1))) dX12_come_12 fX12_58 a23 (by decide) rfl ?_
  refine x_iload_n dX12_come_15 2 rfl ?_
  refine x_iload_n dX12_come_16 0 rfl ?_
  refine x_iushr dX12_come_17 ?_
  refine x_sipush (v := 255) dX12_come_18 (by decide) ?_
  refine x_iand dX12_come_21 ?_
  refine x_iastN (i := ((tn + 1) + 1)) dX12_come_22 f27 (by decide) (by omega) (by decide) (fun h29 a30 e31 l32 s33 => ?_)
  have f34 := (e31 36 (by decide)).trans a23
  have sm35 := Sm.put sm28 e31 l32 s33 (by decide)
  refine x_aload_n dX12_come_23 1 rfl ?_
  refine x_dup dX12_come_24 rfl ?_
  refine x_get (v := .int (nI ((tn + 1) + 1))) dX12_come_25 fX12_58 f34 (by decide) rfl ?_
  refine x_iconst (v := 1) dX12_come_28 (by decide) ?_
  refine x_iaddN (a := ((tn + 1) + 1)) (b := 1) dX12_come_29 ?_
  refine x_put (fs2 := (MO thr ((nI (((tn + 1) + 1) + 1))) tdy bks siz too frm knd num sgn flt plc wrd tld now lst pfo thk are brk ipd bst)) dX12_come_30 fX12_58 (Or.inl rfl) f34 (by decide) rfl rfl (Nat.le_of_ble_eq_true rfl) rfl (fun h36 a37 e38 l39 s40 => ?_)
  have f41 := (e38 37 (by decide)).trans a30
  have sm42 := Sm.put sm35 e38 l39 s40 (by decide)
  refine x_iinc (lv2 := [(2, .int 0), (0, .ref 36), (1, .int x)]) dX12_come_33 0 rfl (by decide) (by decide) rfl ?_
  refine x_goto (tgt := 3) dX12_come_36 (by decide) ?_
  refine x_iload_n dX12_come_3 0 rfl ?_
  refine x_if_lt (tgt := 39) dX12_come_4 (by decide) (fun c_4 => absurd c_4 (by decide)) (fun c_4 => ?_)
  refine x_aload_n dX12_come_7 1 rfl ?_
  refine x_get (v := .ref 37) dX12_come_8 fX12_7 a37 (by decide) rfl ?_
  refine x_aload_n dX12_come_11 1 rfl ?_
  refine x_get (v := .int (nI (((tn + 1) + 1) + 1))) dX12_come_12 fX12_58 a37 (by decide) rfl ?_
  refine x_iload_n dX12_come_15 2 rfl ?_
  refine x_iload_n dX12_come_16 0 rfl ?_
  refine x_iushr dX12_come_17 ?_
  refine x_sipush (v := 255) dX12_come_18 (by decide) ?_
  refine x_iand dX12_come_21 ?_
  refine x_iastN (i := (((tn + 1) + 1) + 1)) dX12_come_22 f41 (by decide) (by omega) (by decide) (fun h43 a44 e45 l46 s47 => ?_)
  have f48 := (e45 36 (by decide)).trans a37
  have sm49 := Sm.put sm42 e45 l46 s47 (by decide)
  refine x_aload_n dX12_come_23 1 rfl ?_
  refine x_dup dX12_come_24 rfl ?_
  refine x_get (v := .int (nI (((tn + 1) + 1) + 1))) dX12_come_25 fX12_58 f48 (by decide) rfl ?_
  refine x_iconst (v := 1) dX12_come_28 (by decide) ?_
  refine x_iaddN (a := (((tn + 1) + 1) + 1)) (b := 1) dX12_come_29 ?_
  refine x_put (fs2 := (MO thr ((nI ((((tn + 1) + 1) + 1) + 1))) tdy bks siz too frm knd num sgn flt plc wrd tld now lst pfo thk are brk ipd bst)) dX12_come_30 fX12_58 (Or.inl rfl) f48 (by decide) rfl rfl (Nat.le_of_ble_eq_true rfl) rfl (fun h50 a51 e52 l53 s54 => ?_)
  have f55 := (e52 37 (by decide)).trans a44
  have sm56 := Sm.put sm49 e52 l53 s54 (by decide)
  refine x_iinc (lv2 := [(2, .int (-8)), (0, .ref 36), (1, .int x)]) dX12_come_33 0 rfl (by decide) (by decide) rfl ?_
  refine x_goto (tgt := 3) dX12_come_36 (by decide) ?_
  refine x_iload_n dX12_come_3 0 rfl ?_
  refine x_if_lt (tgt := 39) dX12_come_4 (by decide) (fun c_4 => ?_) (fun c_4 => absurd (by decide) c_4)
  exact x_vret dX12_come_39 rfl ⟨rfl, a51, ⟨_, f55, tv_stepM (tv_stepM (tv_stepM (tv_stepM e5 (by_mdl _ _ 3 (by decide))) (by_mdl _ _ 2 (by decide))) (by_mdl _ _ 1 (by decide))) (by_mdl _ _ 0 (by decide))⟩, sm56⟩

def s_setTp (s : ST) (n : Nat) (tv : Nat → Nat) : ST := (s.1, s.2.1, n, tv, s.2.2.2.2)

set_option maxRecDepth 100000 in
set_option maxHeartbeats 4000000 in
theorem m_feed {G : GT} {h : List PE} {s : ST} (hM : MoR h s) (hW : WS s) {xa xb xc xd xe : Int32} : CT G mX12_feed 1 22 [.ref 36, .int xa, .int xb, .int xc, .int xd, .int xe] h (fun o => o.1 = some (.int (spFeed (s_tn s))) ∧ MoR o.2 (s_setTp s (spFeedN (s_tn s)) (spFeedV (s_tv s) (s_tn s) xa xb xc xd xe)) ∧ Sm [36, 37] h o.2) := by
  obtain ⟨thr, siz, too, frm, knd, num, sgn, plc, wrd, tld, now, lst, pfo, thk, are, ipd, mt, bk, dy, nm, cv, sv, k1, k2, k3, k4, k5, k6, k7, f36, f37, f38, f39, f40, f41, f42, f43, f44, f45, f46, f47, f48, f49, r1, r2, r3⟩ := hM
  have sm0 : Sm [36, 37] h h := Sm.rf
  have htn := hW.2.2.1
  show X (NF G) G mX12_feed 1 22 0 [(0, .ref 36), (1, .int xa), (2, .int xb), (3, .int xc), (4, .int xd), (5, .int xe)] [] h _
  refine x_aload_n dX12_feed_0 0 rfl ?_
  refine x_iconst (v := 0) dX12_feed_1 (by decide) ?_
  refine x_put (fs2 := (MO 0 ((nI (s_tn s))) ((nI (s_td s))) ((nI (s_n s))) siz too frm knd num sgn ((s_fl s)) plc wrd tld now lst pfo thk are ((s_br s)) ipd ((s_bs s)))) dX12_feed_2 fX12_55 (Or.inl rfl) f36 (by decide) rfl rfl (Nat.le_of_ble_eq_true rfl) rfl (fun h1 a2 e3 l4 s5 => ?_)
  have f6 := (e3 37 (by decide)).trans f37
  have sm7 := Sm.put sm0 e3 l4 s5 (by decide)
  refine x_aload_n dX12_feed_5 0 rfl ?_
  refine x_get (v := .int (nI (s_tn s))) dX12_feed_6 fX12_58 a2 (by decide) rfl ?_
  refine x_bipush (v := 20) dX12_feed_9 (by decide) ?_
  refine x_iaddN (a := (s_tn s)) (b := 20) dX12_feed_11 ?_
  refine x_sipush (v := 640) dX12_feed_12 (by decide) ?_
  refine x_icmp_leN (tgt := 20) (a := ((s_tn s) + 20)) (b := 640) (by omega) (by omega) dX12_feed_15 (by decide) (fun c_15 => ?_) (fun c_15 => ?_)
  · refine x_aload_n dX12_feed_20 0 rfl ?_
    refine x_iload_n dX12_feed_21 1 rfl ?_
    refine x_callV (rf' := 0) (rl' := 0) [.int xa] [] dX12_feed_22 vX12_61 Y_X12_come a2 (by decide) rfl rfl (Nat.le_of_ble_eq_true rfl) (Nat.le_of_ble_eq_true rfl) (by decide) (by decide) (c_come a2 f6 r1 (by omega)) (fun r h09 e1 => ?_)
    obtain ⟨e0, g360, ⟨mt0, g370, E0⟩, sm09⟩ := e1
    cases e0
    have sq0 := sm7.tr sm09
    refine x_aload_n dX12_feed_25 0 rfl ?_
    refine x_iload_n dX12_feed_26 2 rfl ?_
    refine x_callV (rf' := 0) (rl' := 0) [.int xb] [] dX12_feed_27 vX12_61 Y_X12_come g360 (by decide) rfl rfl (Nat.le_of_ble_eq_true rfl) (Nat.le_of_ble_eq_true rfl) (by decide) (by decide) (c_come g360 g370 E0 (by omega)) (fun r h19 e1 => ?_)
    obtain ⟨e0, g361, ⟨mt1, g371, E1⟩, sm19⟩ := e1
    cases e0
    have sq1 := sq0.tr sm19
    refine x_aload_n dX12_feed_30 0 rfl ?_
    refine x_iload_n dX12_feed_31 3 rfl ?_
    refine x_callV (rf' := 0) (rl' := 0) [.int xc] [] dX12_feed_32 vX12_61 Y_X12_come g361 (by decide) rfl rfl (Nat.le_of_ble_eq_true rfl) (Nat.le_of_ble_eq_true rfl) (by decide) (by decide) (c_come g361 g371 E1 (by omega)) (fun r h29 e1 => ?_)
    obtain ⟨e0, g362, ⟨mt2, g372, E2⟩, sm29⟩ := e1
    cases e0
    have sq2 := sq1.tr sm29
    refine x_aload_n dX12_feed_35 0 rfl ?_
    refine x_iload dX12_feed_36 4 rfl ?_
    refine x_callV (rf' := 0) (rl' := 0) [.int xd] [] dX12_feed_38 vX12_61 Y_X12_come g362 (by decide) rfl rfl (Nat.le_of_ble_eq_true rfl) (Nat.le_of_ble_eq_true rfl) (by decide) (by decide) (c_come g362 g372 E2 (by omega)) (fun r h39 e1 => ?_)
    obtain ⟨e0, g363, ⟨mt3, g373, E3⟩, sm39⟩ := e1
    cases e0
    have sq3 := sq2.tr sm39
    refine x_aload_n dX12_feed_41 0 rfl ?_
    refine x_iload dX12_feed_42 5 rfl ?_
    refine x_callV (rf' := 0) (rl' := 0) [.int xe] [] dX12_feed_44 vX12_61 Y_X12_come g363 (by decide) rfl rfl (Nat.le_of_ble_eq_true rfl) (Nat.le_of_ble_eq_true rfl) (by decide) (by decide) (c_come g363 g373 E3 (by omega)) (fun r h49 e1 => ?_)
    obtain ⟨e0, g364, ⟨mt4, g374, E4⟩, sm49⟩ := e1
    cases e0
    have sq4 := sq3.tr sm49
    refine x_aload_n dX12_feed_47 0 rfl ?_
    refine x_get (v := .int (nI (s_tn s + 20))) dX12_feed_48 fX12_58 g364 (by decide) rfl ?_
    exact x_iret dX12_feed_51 rfl ⟨by rw [spFeed, if_neg (by omega)], by rw [spFeedN, spFeedV, if_neg (by omega), if_neg (by omega)]; exact moR g364 g374 (sq4.at f38 (by decide)) (sq4.at f39 (by decide)) (sq4.at f40 (by decide)) (sq4.at f41 (by decide)) (sq4.at f42 (by decide)) (sq4.at f43 (by decide)) (sq4.at f44 (by decide)) (sq4.at f45 (by decide)) (sq4.at f46 (by decide)) (sq4.at f47 (by decide)) (sq4.at f48 (by decide)) (sq4.at f49 (by decide)) E4 r2 r3, sq4⟩
  · refine x_iconst (v := (-1)) dX12_feed_18 (by decide) ?_
    exact x_iret dX12_feed_19 rfl ⟨by rw [spFeed, if_pos (by omega)], by rw [spFeedN, spFeedV, if_pos (by omega), if_pos (by omega)]; exact moR a2 f6 (sm7.at f38 (by decide)) (sm7.at f39 (by decide)) (sm7.at f40 (by decide)) (sm7.at f41 (by decide)) (sm7.at f42 (by decide)) (sm7.at f43 (by decide)) (sm7.at f44 (by decide)) (sm7.at f45 (by decide)) (sm7.at f46 (by decide)) (sm7.at f47 (by decide)) (sm7.at f48 (by decide)) (sm7.at f49 (by decide)) r1 r2 r3, sm7⟩

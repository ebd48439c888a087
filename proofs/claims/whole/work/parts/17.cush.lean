set_option maxRecDepth 100000 in
set_option maxHeartbeats 4000000 in
theorem l_wearTo {G : GT} {thick area : Int64} {keeps kt : Int32} {c : Nat} {fr : Nat → Int32} (hc : c ≤ 96) : ∀ (m x : Nat) (pu : Nat → Int32) (sv : Nat → Int64) (h : List PE), c - x = m → x ≤ c → (∀ j, j < x → pu j = fr j * kt / 100) → (∀ j, j < x → sv j = stoF pu j) → h[21]? = some (cO 4 [.ref 22, .ref 23, .ref 24, .int (lcI c), .long thick, .long area, .int keeps, .int kt]) → h[22]? = some (cI 96 fr) → h[23]? = some (cI 96 pu) → h[24]? = some (cJ 96 sv) → X (NF G) G mX4_wearTo 0 0 7 [(2, .int (nI x)), (0, .ref 21)] [] h (fun o => o.1 = none ∧ ∃ (pu2 : Nat → Int32) (sv2 : Nat → Int64), o.2[21]? = some (cO 4 [.ref 22, .ref 23, .ref 24, .int (lcI c), .long thick, .long area, .int keeps, .int kt]) ∧ o.2[23]? = some (cI 96 pu2) ∧ o.2[24]? = some (cJ 96 sv2) ∧ Sm [21, 23, 24] h o.2 ∧ (∀ j, j < c → pu2 j = fr j * kt / 100) ∧ ∀ j, j < c → sv2 j = stoF pu2 j) := by
  intro m
  induction m using Nat.strongRecOn with
  | _ m ih =>
    intro x pu sv h hm hx hpu hsv f21 f22 f23 f24
    have sm0 : Sm [21, 23, 24] h h := Sm.rf
    refine x_iload_n dX4_wearTo_7 0 rfl ?_
    refine x_aload_n dX4_wearTo_8 1 rfl ?_
    refine x_get (v := .int (lcI c)) dX4_wearTo_9 fX4_22 f21 (by decide) rfl ?_
    refine x_icmp_gt (tgt := 81) dX4_wearTo_12 (by decide) (fun c_12 => ?_) (fun c_12 => ?_)
    · have c_12 : c ≤ x := (lcI_lt (by omega) (by omega)).mp c_12
      exact x_vret dX4_wearTo_81 rfl ⟨rfl, pu, sv, f21, f23, f24, sm0, fun j hj => hpu j (by omega), fun j hj => hsv j (by omega)⟩
    · have c_12 : x < c := by rw [lcI_lt (by omega) (by omega)] at c_12; omega
      refine x_aload_n dX4_wearTo_15 1 rfl ?_
      refine x_get (v := .ref 23) dX4_wearTo_16 fX4_15 f21 (by decide) rfl ?_
      refine x_iload_n dX4_wearTo_19 0 rfl ?_
      refine x_aload_n dX4_wearTo_20 1 rfl ?_
      refine x_get (v := .ref 22) dX4_wearTo_21 fX4_11 f21 (by decide) rfl ?_
      refine x_iload_n dX4_wearTo_24 0 rfl ?_
      refine x_ialdN (i := x) dX4_wearTo_25 f22 (by decide) (by omega) (by decide) ?_
      refine x_aload_n dX4_wearTo_26 1 rfl ?_
      refine x_get (v := .int kt) dX4_wearTo_27 fX4_36 f21 (by decide) rfl ?_
      refine x_imul dX4_wearTo_30 ?_
      refine x_bipush (v := 100) dX4_wearTo_31 (by decide) ?_
      refine x_idiv dX4_wearTo_33 (by decide) ?_
      refine x_iastN (i := x) dX4_wearTo_34 f23 (by decide) (by omega) (by decide) (fun h1 a2 e3 l4 s5 => ?_)
      have f6 := (e3 21 (by decide)).trans f21
      have f7 := (e3 22 (by decide)).trans f22
      have f8 := (e3 24 (by decide)).trans f24
      have sm9 := Sm.put sm0 e3 l4 s5 (by decide)
      refine x_aload_n dX4_wearTo_35 1 rfl ?_
      refine x_get (v := .ref 24) dX4_wearTo_36 fX4_18 f6 (by decide) rfl ?_
      refine x_iload_n dX4_wearTo_39 0 rfl ?_
      refine x_iload_n dX4_wearTo_40 0 rfl ?_
      refine x_if_neN (tgt := 48) (a := x) (by omega) dX4_wearTo_41 (by decide) (fun c_41 => ?_) (fun c_41 => ?_)
      · refine x_aload_n dX4_wearTo_48 1 rfl ?_
        refine x_get (v := .ref 24) dX4_wearTo_49 fX4_18 f6 (by decide) rfl ?_
        refine x_iload_n dX4_wearTo_52 0 rfl ?_
        refine x_iconst (v := 1) dX4_wearTo_53 (by decide) ?_
        refine x_isubN (a := x) (b := 1) (by omega) dX4_wearTo_54 ?_
        refine x_laldN (i := (x - 1)) dX4_wearTo_55 f8 (by decide) (by omega) (by decide) ?_
        refine x_aload_n dX4_wearTo_56 1 rfl ?_
        refine x_get (v := .ref 23) dX4_wearTo_57 fX4_15 f6 (by decide) rfl ?_
        refine x_iload_n dX4_wearTo_60 0 rfl ?_
        refine x_iconst (v := 1) dX4_wearTo_61 (by decide) ?_
        refine x_isubN (a := x) (b := 1) (by omega) dX4_wearTo_62 ?_
        refine x_ialdN (i := (x - 1)) dX4_wearTo_63 a2 (by decide) (by omega) (by decide) ?_
        refine x_i2l dX4_wearTo_64 ?_
        refine x_ladd dX4_wearTo_65 ?_
        refine x_aload_n dX4_wearTo_66 1 rfl ?_
        refine x_get (v := .ref 23) dX4_wearTo_67 fX4_15 f6 (by decide) rfl ?_
        refine x_iload_n dX4_wearTo_70 0 rfl ?_
        refine x_ialdN (i := x) dX4_wearTo_71 a2 (by decide) (by omega) (by decide) ?_
        refine x_i2l dX4_wearTo_72 ?_
        refine x_ladd dX4_wearTo_73 ?_
        refine x_lastN (i := x) dX4_wearTo_74 f8 (by decide) (by omega) (by decide) (fun h10 a11 e12 l13 s14 => ?_)
        have f15 := (e12 21 (by decide)).trans f6
        have f16 := (e12 22 (by decide)).trans f7
        have f17 := (e12 23 (by decide)).trans a2
        have sm18 := Sm.put sm9 e12 l13 s14 (by decide)
        refine x_iincN (lv2 := [(2, .int (nI (x + 1))), (0, .ref 21)]) dX4_wearTo_75 0 rfl (by decide) rfl ?_
        refine x_goto (tgt := 7) dX4_wearTo_78 (by decide) ?_
        refine x_perm [0, 1] rfl ?_
        refine (ih (c - (x + 1)) (by omega) (x + 1) (upd pu x ((((fr x) * kt) / 100))) (vp_updL sv x ((((sv ((x - 1))) + ((((upd pu x ((((fr x) * kt) / 100)))) ((x - 1)))).toInt64) + ((((upd pu x ((((fr x) * kt) / 100)))) x)).toInt64))) h10 rfl (by omega) ?_ ?_ f15 f16 f17 a11).weaken (fun o ho => ?_)
        · intro j hj
          by_cases e : j = x
          · subst e; exact pk_us
          · rw [pk_un e]; exact hpu j (by omega)
        · intro j hj
          by_cases e : j = x
          · subst e; rw [pk_uLs, show j = (j - 1) + 1 by omega, stoF, show j - 1 + 1 - 1 = j - 1 by omega, show j - 1 + 1 = j by omega, stoF_upd (by omega), hsv (j - 1) (by omega)]
          · rw [pk_uLn e, stoF_upd (by omega)]; exact hsv j (by omega)
        · obtain ⟨o1, pu2, sv2, o2, o3, o4, o5, o6⟩ := ho
          exact ⟨o1, pu2, sv2, o2, o3, o4, sm18.tr o5, o6⟩
      · refine x_lconst (v := 0) dX4_wearTo_44 (by decide) ?_
        refine x_goto (tgt := 74) dX4_wearTo_45 (by decide) ?_
        refine x_lastN (i := x) dX4_wearTo_74 f8 (by decide) (by omega) (by decide) (fun h19 a20 e21 l22 s23 => ?_)
        have f24 := (e21 21 (by decide)).trans f6
        have f25 := (e21 22 (by decide)).trans f7
        have f26 := (e21 23 (by decide)).trans a2
        have sm27 := Sm.put sm9 e21 l22 s23 (by decide)
        refine x_iincN (lv2 := [(2, .int (nI (x + 1))), (0, .ref 21)]) dX4_wearTo_75 0 rfl (by decide) rfl ?_
        refine x_goto (tgt := 7) dX4_wearTo_78 (by decide) ?_
        refine x_perm [0, 1] rfl ?_
        refine (ih (c - (x + 1)) (by omega) (x + 1) (upd pu x ((((fr x) * kt) / 100))) (vp_updL sv x 0) h19 rfl (by omega) ?_ ?_ f24 f25 f26 a20).weaken (fun o ho => ?_)
        · intro j hj
          by_cases e : j = x
          · subst e; exact pk_us
          · rw [pk_un e]; exact hpu j (by omega)
        · intro j hj
          by_cases e : j = x
          · subst e; rw [pk_uLs, c_41]; rfl
          · rw [pk_uLn e, stoF_upd (by omega)]; exact hsv j (by omega)
        · obtain ⟨o1, pu2, sv2, o2, o3, o4, o5, o6⟩ := ho
          exact ⟨o1, pu2, sv2, o2, o3, o4, sm27.tr o5, o6⟩

set_option maxRecDepth 100000 in
set_option maxHeartbeats 4000000 in
theorem c_wearTo {G : GT} {h : List PE} {thick area : Int64} {keeps kept : Int32} {c : Nat} {kt : Int32} {fr pu : Nat → Int32} {sv : Nat → Int64} (f21 : h[21]? = some (cO 4 [.ref 22, .ref 23, .ref 24, .int (lcI c), .long thick, .long area, .int keeps, .int kept])) (f22 : h[22]? = some (cI 96 fr)) (f23 : h[23]? = some (cI 96 pu)) (f24 : h[24]? = some (cJ 96 sv)) (hc : c ≤ 96) : CT G mX4_wearTo 0 0 [.ref 21, .int kt] h (fun o => o.1 = none ∧ ∃ (pu2 : Nat → Int32) (sv2 : Nat → Int64), o.2[21]? = some (cO 4 [.ref 22, .ref 23, .ref 24, .int (lcI c), .long thick, .long area, .int keeps, .int kt]) ∧ o.2[23]? = some (cI 96 pu2) ∧ o.2[24]? = some (cJ 96 sv2) ∧ Sm [21, 23, 24] h o.2 ∧ (∀ j, j < c → pu2 j = fr j * kt / 100) ∧ ∀ j, j < c → sv2 j = stoF pu2 j) := by
  have sm0 : Sm [21, 23, 24] h h := Sm.rf
  show X (NF G) G mX4_wearTo 0 0 0 [(0, .ref 21), (1, .int kt)] [] h _
  refine x_aload_n dX4_wearTo_0 0 rfl ?_
  refine x_iload_n dX4_wearTo_1 1 rfl ?_
  refine x_put (fs2 := [.ref 22, .ref 23, .ref 24, .int (lcI c), .long thick, .long area, .int keeps, .int kt]) dX4_wearTo_2 fX4_36 (Or.inl rfl) f21 (by decide) rfl rfl (Nat.le_of_ble_eq_true rfl) rfl (fun h1 a2 e3 l4 s5 => ?_)
  have f6 := (e3 22 (by decide)).trans f22
  have f7 := (e3 23 (by decide)).trans f23
  have f8 := (e3 24 (by decide)).trans f24
  have sm9 := Sm.put sm0 e3 l4 s5 (by decide)
  refine x_iconst (v := 0) dX4_wearTo_5 (by decide) ?_
  refine x_istore_n (lv2 := [(2, .int 0), (0, .ref 21), (1, .int kt)]) dX4_wearTo_6 (by decide) rfl ?_
  refine x_perm [0, 1] rfl ?_
  refine (l_wearTo hc c 0 pu sv h1 rfl (by omega) (fun j hj => absurd hj (by omega)) (fun j hj => absurd hj (by omega)) a2 f6 f7 f8).weaken (fun o ho => ?_)
  obtain ⟨o1, pu2, sv2, o2, o3, o4, o5, o6⟩ := ho
  exact ⟨o1, pu2, sv2, o2, o3, o4, sm9.tr o5, o6⟩

set_option maxRecDepth 100000 in
set_option maxHeartbeats 4000000 in
theorem c_wearByBlow {G : GT} {h : List PE} {thick area : Int64} {keeps kept : Int32} {c : Nat} {fr pu : Nat → Int32} {sv : Nat → Int64} (f21 : h[21]? = some (cO 4 [.ref 22, .ref 23, .ref 24, .int (lcI c), .long thick, .long area, .int keeps, .int kept])) (f22 : h[22]? = some (cI 96 fr)) (f23 : h[23]? = some (cI 96 pu)) (f24 : h[24]? = some (cJ 96 sv)) (hc : c ≤ 96) : CT G mX4_wearByBlow 1 22 [.ref 21] h (fun o => o.1 = none ∧ ∃ (pu2 : Nat → Int32) (sv2 : Nat → Int64), o.2[21]? = some (cO 4 [.ref 22, .ref 23, .ref 24, .int (lcI c), .long thick, .long area, .int keeps, .int (kept * keeps / 100)]) ∧ o.2[23]? = some (cI 96 pu2) ∧ o.2[24]? = some (cJ 96 sv2) ∧ Sm [21, 23, 24] h o.2 ∧ (∀ j, j < c → pu2 j = fr j * (kept * keeps / 100) / 100) ∧ ∀ j, j < c → sv2 j = stoF pu2 j) := by
  show X (NF G) G mX4_wearByBlow 1 22 0 [(0, .ref 21)] [] h _
  refine x_aload_n dX4_wearByBlow_0 0 rfl ?_
  refine x_aload_n dX4_wearByBlow_1 0 rfl ?_
  refine x_get (v := .int kept) dX4_wearByBlow_2 fX4_36 f21 (by decide) rfl ?_
  refine x_aload_n dX4_wearByBlow_5 0 rfl ?_
  refine x_get (v := .int keeps) dX4_wearByBlow_6 fX4_33 f21 (by decide) rfl ?_
  refine x_imul dX4_wearByBlow_9 ?_
  refine x_bipush (v := 100) dX4_wearByBlow_10 (by decide) ?_
  refine x_idiv dX4_wearByBlow_12 (by decide) ?_
  refine x_callV (rf' := 0) (rl' := 0) [.int ((kept * keeps) / 100)] [] dX4_wearByBlow_13 vX4_76 Y_X4_wearTo f21 (by decide) rfl rfl (Nat.le_of_ble_eq_true rfl) (Nat.le_of_ble_eq_true rfl) (by decide) (by decide) (c_wearTo f21 f22 f23 f24 hc) (fun r h1 e1 => ?_)
  obtain ⟨e0, pu2, sv2, g21, g23, g24, g5, g6, g7⟩ := e1
  subst e0
  exact x_vret dX4_wearByBlow_16 rfl ⟨rfl, pu2, sv2, g21, g23, g24, g5, g6, g7⟩

set_option maxRecDepth 100000 in
set_option maxHeartbeats 4000000 in
theorem l_squeezeOf {G : GT} {h : List PE} {thick area : Int64} {keeps kept : Int32} {c : Nat} {sv : Nat → Int64} {wt hh : Int32} (f21 : h[21]? = some (cO 4 [.ref 22, .ref 23, .ref 24, .int (lcI c), .long thick, .long area, .int keeps, .int kept])) (f24 : h[24]? = some (cJ 96 sv)) (hc : c ≤ 96) : ∀ (m k : Nat), c - k = m → k ≤ 96 → X (NF G) G mX4_squeezeOf 1 21 7 [(4, .int (nI k)), (0, .ref 21), (1, .int wt), (2, .int hh)] [] h (fun o => o = (some (.int (sqF sv wt.toInt64 hh.toInt64 thick area k (c - k))), h)) := by
  intro m
  induction m using Nat.strongRecOn with
  | _ m ih =>
    intro k hm hk
    refine x_iload dX4_squeezeOf_7 0 rfl ?_
    refine x_aload_n dX4_squeezeOf_9 1 rfl ?_
    refine x_get (v := .int (lcI c)) dX4_squeezeOf_10 fX4_22 f21 (by decide) rfl ?_
    refine x_icmp_gt (tgt := 68) dX4_squeezeOf_13 (by decide) (fun c_13 => ?_) (fun c_13 => ?_)
    · have c_13 : c ≤ k := (lcI_lt (by omega) (by omega)).mp c_13
      refine x_bipush (v := (-2)) dX4_squeezeOf_68 (by decide) ?_
      exact x_iret dX4_squeezeOf_70 rfl (by rw [show c - k = 0 by omega]; rfl)
    · have c_13 : k < c := by rw [lcI_lt (by omega) (by omega)] at c_13; omega
      refine x_aload_n dX4_squeezeOf_16 1 rfl ?_
      refine x_get (v := .ref 24) dX4_squeezeOf_17 fX4_18 f21 (by decide) rfl ?_
      refine x_iload dX4_squeezeOf_20 0 rfl ?_
      refine x_laldN (i := k) dX4_squeezeOf_22 f24 (by decide) (by omega) (by decide) ?_
      refine x_aload_n dX4_squeezeOf_23 1 rfl ?_
      refine x_get (v := .long area) dX4_squeezeOf_24 fX4_30 f21 (by decide) rfl ?_
      refine x_lmul dX4_squeezeOf_27 ?_
      refine x_aload_n dX4_squeezeOf_28 1 rfl ?_
      refine x_get (v := .long thick) dX4_squeezeOf_29 fX4_26 f21 (by decide) rfl ?_
      refine x_lmul dX4_squeezeOf_32 ?_
      refine x_ldc2 (v := 2) dX4_squeezeOf_33 kX4_83 ?_
      refine x_iload_n dX4_squeezeOf_36 2 rfl ?_
      refine x_i2l dX4_squeezeOf_37 ?_
      refine x_lmul dX4_squeezeOf_38 ?_
      refine x_ldc2 (v := 100) dX4_squeezeOf_39 kX4_85 ?_
      refine x_iload_n dX4_squeezeOf_42 3 rfl ?_
      refine x_i2l dX4_squeezeOf_43 ?_
      refine x_lmul dX4_squeezeOf_44 ?_
      refine x_iload dX4_squeezeOf_45 0 rfl ?_
      refine x_i2l dX4_squeezeOf_47 ?_
      refine x_aload_n dX4_squeezeOf_48 1 rfl ?_
      refine x_get (v := .long thick) dX4_squeezeOf_49 fX4_26 f21 (by decide) rfl ?_
      refine x_lmul dX4_squeezeOf_52 ?_
      refine x_ladd dX4_squeezeOf_53 ?_
      refine x_lmul dX4_squeezeOf_54 ?_
      refine x_lif_lt (tgt := 62) dX4_squeezeOf_55 dX4_squeezeOf_56 (by decide) (fun c_56 => ?_) (fun c_56 => ?_)
      · refine x_iincN (lv2 := [(4, .int (nI (k + 1))), (0, .ref 21), (1, .int wt), (2, .int hh)]) dX4_squeezeOf_62 0 rfl (by decide) rfl ?_
        refine x_goto (tgt := 7) dX4_squeezeOf_65 (by decide) ?_
        refine x_perm [0, 1, 2, 3] rfl ?_
        exact (ih (c - (k + 1)) (by omega) (k + 1) rfl (by omega)).weaken (fun o ho => by rw [ho, show c - k = (c - (k + 1)) + 1 by omega, sqF, if_pos c_56])
      · refine x_iload dX4_squeezeOf_59 0 rfl ?_
        exact x_iret dX4_squeezeOf_61 rfl (by rw [show c - k = (c - (k + 1)) + 1 by omega, sqF, if_neg c_56])

set_option maxRecDepth 100000 in
set_option maxHeartbeats 4000000 in
theorem c_squeezeOf {G : GT} {h : List PE} {thick area : Int64} {keeps kept : Int32} {c : Nat} {sv : Nat → Int64} {wt hh : Int32} {x0 : Nat} (f21 : h[21]? = some (cO 4 [.ref 22, .ref 23, .ref 24, .int (lcI c), .long thick, .long area, .int keeps, .int kept])) (f24 : h[24]? = some (cJ 96 sv)) (hc : c ≤ 96) (hx : x0 ≤ 96) : CT G mX4_squeezeOf 1 21 [.ref 21, .int wt, .int hh, .int (nI x0)] h (fun o => o = (some (.int (sqF sv wt.toInt64 hh.toInt64 thick area x0 (c - x0))), h)) := by
  show X (NF G) G mX4_squeezeOf 1 21 0 [(0, .ref 21), (1, .int wt), (2, .int hh), (3, .int (nI x0))] [] h _
  refine x_iload_n dX4_squeezeOf_0 3 rfl ?_
  refine x_iconst (v := 0) dX4_squeezeOf_1 (by decide) ?_
  refine x_callS (rf' := 0) (rl' := 0) [.int (nI x0), .int 0] [] dX4_squeezeOf_2 vX4_80 Y_J9_max_7cf53 rfl rfl (Nat.le_of_ble_eq_true rfl) (Nat.le_of_ble_eq_true rfl) (by decide) (by decide) c_max (fun _ _ e1 => ?_)
  cases e1
  rw [if_neg (nI_pos (by omega))]
  refine x_istore (lv2 := [(4, .int (nI x0)), (0, .ref 21), (1, .int wt), (2, .int hh), (3, .int (nI x0))]) dX4_squeezeOf_5 (by decide) rfl ?_
  refine x_perm [0, 1, 2, 3] rfl ?_
  exact l_squeezeOf f21 f24 hc (c - x0) x0 rfl hx

set_option maxRecDepth 100000 in
set_option maxHeartbeats 4000000 in
theorem c_blowAtN {G : GT} {h : List PE} {thick area : Int64} {keeps kept : Int32} {c : Nat} {x wt : Int32} (f21 : h[21]? = some (cO 4 [.ref 22, .ref 23, .ref 24, .int (lcI c), .long thick, .long area, .int keeps, .int kept])) (hx : x < 0) : CT G mX4_blowAt 1 23 [.ref 21, .int x, .int wt] h (fun o => o = (some (.int (-2)), h)) := by
  show X (NF G) G mX4_blowAt 1 23 0 [(0, .ref 21), (1, .int x), (2, .int wt)] [] h _
  refine x_iload_n dX4_blowAt_0 1 rfl ?_
  refine x_if_lt (tgt := 17) dX4_blowAt_1 (by decide) (fun c_1 => ?_) (fun c_1 => absurd hx c_1)
  refine x_bipush (v := (-2)) dX4_blowAt_17 (by decide) ?_
  exact x_iret dX4_blowAt_19 rfl rfl

theorem blF_min (p : Int32) (area w : Int64) : (if p.toInt64 * area * 10 / w < 2000000000 then p.toInt64 * area * 10 / w else 2000000000).toInt32 = blF p area w := by
  unfold blF
  generalize p.toInt64 * area * 10 / w = v
  by_cases h1 : v < 2000000000
  · rw [if_pos h1, if_pos (Int64.le_of_lt h1)]
  · rw [if_neg h1]
    by_cases h2 : v ≤ 2000000000
    · rw [if_pos h2, show v = 2000000000 from Int64.le_antisymm h2 (Int64.not_lt.mp h1)]
    · rw [if_neg h2]; rfl

set_option maxRecDepth 100000 in
set_option maxHeartbeats 4000000 in
theorem c_blowAt2 {G : GT} {h : List PE} {thick area : Int64} {keeps kept : Int32} {c : Nat} {pu : Nat → Int32} {wt : Int32} {x : Nat} (f21 : h[21]? = some (cO 4 [.ref 22, .ref 23, .ref 24, .int (lcI c), .long thick, .long area, .int keeps, .int kept])) (f23 : h[23]? = some (cI 96 pu)) (hc : c ≤ 96) (hx : x < c) (hw : 1 ≤ wt) (hw0 : ¬ wt.toInt64 = 0) : CT G mX4_blowAt 1 23 [.ref 21, .int (nI x), .int wt] h (fun o => o = (some (.int (blF (pu x) area wt.toInt64)), h)) := by
  show X (NF G) G mX4_blowAt 1 23 0 [(0, .ref 21), (1, .int (nI x)), (2, .int wt)] [] h _
  refine x_iload_n dX4_blowAt_0 1 rfl ?_
  refine x_if_ltN (a := x) (by omega) (tgt := 17) dX4_blowAt_1 (by decide) ?_
  refine x_iload_n dX4_blowAt_4 1 rfl ?_
  refine x_aload_n dX4_blowAt_5 0 rfl ?_
  refine x_get (v := .int (lcI c)) dX4_blowAt_6 fX4_22 f21 (by decide) rfl ?_
  refine x_icmp_gt (tgt := 17) dX4_blowAt_9 (by decide) (fun c_9 => absurd c_9 (by rw [lcI_lt (by omega) (by omega)]; omega)) (fun c_9 => ?_)
  refine x_iload_n dX4_blowAt_12 2 rfl ?_
  refine x_iconst (v := 1) dX4_blowAt_13 (by decide) ?_
  refine x_icmp_ge (tgt := 20) dX4_blowAt_14 (by decide) (fun c_14 => ?_) (fun c_14 => absurd hw c_14)
  refine x_ldc2 (v := 2000000000) dX4_blowAt_20 kX4_94 ?_
  refine x_aload_n dX4_blowAt_23 0 rfl ?_
  refine x_get (v := .ref 23) dX4_blowAt_24 fX4_15 f21 (by decide) rfl ?_
  refine x_iload_n dX4_blowAt_27 1 rfl ?_
  refine x_ialdN (i := x) dX4_blowAt_28 f23 (by decide) (by omega) (by decide) ?_
  refine x_i2l dX4_blowAt_29 ?_
  refine x_aload_n dX4_blowAt_30 0 rfl ?_
  refine x_get (v := .long area) dX4_blowAt_31 fX4_30 f21 (by decide) rfl ?_
  refine x_lmul dX4_blowAt_34 ?_
  refine x_ldc2 (v := 10) dX4_blowAt_35 kX4_96 ?_
  refine x_lmul dX4_blowAt_38 ?_
  refine x_iload_n dX4_blowAt_39 2 rfl ?_
  refine x_i2l dX4_blowAt_40 ?_
  refine x_ldiv dX4_blowAt_41 hw0 ?_
  refine x_callS (rf' := 0) (rl' := 0) [.long 2000000000, .long (((((pu x)).toInt64 * area) * 10) / wt.toInt64)] [] dX4_blowAt_42 vX4_98 Y_J9_min_f86c9 rfl rfl (Nat.le_of_ble_eq_true rfl) (Nat.le_of_ble_eq_true rfl) (by decide) (by decide) c_minL (fun _ _ e1 => ?_)
  cases e1
  refine x_l2i dX4_blowAt_45 ?_
  exact x_iret dX4_blowAt_46 rfl (by rw [blF_min])

/-- BLOW of a fall, -2: to the END -/
def blO (sto : Nat → Int64) (cu : Nat → Int32) (c : Nat) (thick area : Int64) (w h : Int32) : Int32 := if sqF sto w.toInt64 h.toInt64 thick area 0 c < 0 then -2 else blF (cu (sqF sto w.toInt64 h.toInt64 thick area 0 c).toNatClampNeg) area w.toInt64

set_option maxRecDepth 100000 in
set_option maxHeartbeats 4000000 in
theorem c_blowOf {G : GT} {h : List PE} {thick area : Int64} {keeps kept : Int32} {c : Nat} {pu : Nat → Int32} {sv : Nat → Int64} {wt hh : Int32} (f21 : h[21]? = some (cO 4 [.ref 22, .ref 23, .ref 24, .int (lcI c), .long thick, .long area, .int keeps, .int kept])) (f23 : h[23]? = some (cI 96 pu)) (f24 : h[24]? = some (cJ 96 sv)) (hc : c ≤ 96) (hw : 1 ≤ wt) (hw0 : ¬ wt.toInt64 = 0) : CT G mX4_blowOf 2 45 [.ref 21, .int wt, .int hh] h (fun o => o = (some (.int (blO sv pu c thick area wt hh)), h)) := by
  show X (NF G) G mX4_blowOf 2 45 0 [(0, .ref 21), (1, .int wt), (2, .int hh)] [] h _
  refine x_aload_n dX4_blowOf_0 0 rfl ?_
  refine x_aload_n dX4_blowOf_1 0 rfl ?_
  refine x_iload_n dX4_blowOf_2 1 rfl ?_
  refine x_iload_n dX4_blowOf_3 2 rfl ?_
  refine x_iconst (v := 0) dX4_blowOf_4 (by decide) ?_
  refine x_callV (rf' := 1) (rl' := 21) [.int wt, .int hh, .int 0] [.ref 21] dX4_blowOf_5 vX4_87 Y_X4_squeezeOf f21 (by decide) rfl rfl (Nat.le_of_ble_eq_true rfl) (Nat.le_of_ble_eq_true rfl) (by decide) (by decide) (c_squeezeOf (x0 := 0) f21 f24 hc (by omega)) (fun _ _ e1 => ?_)
  cases e1
  rw [Nat.sub_zero]
  refine x_iload_n dX4_blowOf_8 1 rfl ?_
  rcases sqF_cases sv wt.toInt64 hh.toInt64 thick area c 0 with e9 | ⟨x, x1, x2, e9⟩
  · rw [e9]
    refine x_callV (rf' := 1) (rl' := 23) [.int (-2), .int wt] [] dX4_blowOf_9 vX4_91 Y_X4_blowAt f21 (by decide) rfl rfl (Nat.le_of_ble_eq_true rfl) (Nat.le_of_ble_eq_true rfl) (by decide) (by decide) (c_blowAtN f21 (by decide)) (fun _ _ e2 => ?_)
    cases e2
    exact x_iret dX4_blowOf_12 rfl (by simp [blO, e9])
  · rw [e9]
    refine x_callV (rf' := 1) (rl' := 23) [.int (nI x), .int wt] [] dX4_blowOf_9 vX4_91 Y_X4_blowAt f21 (by decide) rfl rfl (Nat.le_of_ble_eq_true rfl) (Nat.le_of_ble_eq_true rfl) (by decide) (by decide) (c_blowAt2 f21 f23 hc (by omega) hw hw0) (fun _ _ e2 => ?_)
    cases e2
    exact x_iret dX4_blowOf_12 rfl (by have h9 : ¬ nI x < 0 := nI_pos (by omega); simp [blO, e9, h9, nI_clamp (show x < 2 ^ 31 by omega)])

set_option maxRecDepth 100000 in
set_option maxHeartbeats 4000000 in
theorem c_isWithin {G : GT} {h : List PE} {thick area : Int64} {keeps kept : Int32} {c : Nat} {pu : Nat → Int32} {sv : Nat → Int64} {wt hh : Int32} {ms : Int64} (f21 : h[21]? = some (cO 4 [.ref 22, .ref 23, .ref 24, .int (lcI c), .long thick, .long area, .int keeps, .int kept])) (f23 : h[23]? = some (cI 96 pu)) (f24 : h[24]? = some (cJ 96 sv)) (hc : c ≤ 96) (hw : 1 ≤ wt) (hw0 : ¬ wt.toInt64 = 0) : CT G mX4_isWithin 3 67 [.ref 21, .int wt, .int hh, .long ms] h (fun o => o = (some (.int (if blO sv pu c thick area wt hh = -2 ∨ ms < (blO sv pu c thick area wt hh).toInt64 then 0 else 1)), h)) := by
  show X (NF G) G mX4_isWithin 3 67 0 [(0, .ref 21), (1, .int wt), (2, .int hh), (3, .long ms)] [] h _
  refine x_aload_n dX4_isWithin_0 0 rfl ?_
  refine x_iload_n dX4_isWithin_1 1 rfl ?_
  refine x_iload_n dX4_isWithin_2 2 rfl ?_
  refine x_callV (rf' := 2) (rl' := 45) [.int wt, .int hh] [] dX4_isWithin_3 vX4_104 Y_X4_blowOf f21 (by decide) rfl rfl (Nat.le_of_ble_eq_true rfl) (Nat.le_of_ble_eq_true rfl) (by decide) (by decide) (c_blowOf f21 f23 f24 hc hw hw0) (fun _ _ e1 => ?_)
  cases e1
  refine x_istore (lv2 := [(5, .int (blO sv pu c thick area wt hh)), (0, .ref 21), (1, .int wt), (2, .int hh), (3, .long ms)]) dX4_isWithin_6 (by decide) rfl ?_
  refine x_iload dX4_isWithin_8 0 rfl ?_
  refine x_bipush (v := (-2)) dX4_isWithin_10 (by decide) ?_
  refine x_icmp_eq (tgt := 27) dX4_isWithin_12 (by decide) (fun c_12 => ?_) (fun c_12 => ?_)
  · refine x_iconst (v := 0) dX4_isWithin_27 (by decide) ?_
    exact x_zret dX4_isWithin_28 rfl rfl (by simp [c_12])
  · refine x_iload dX4_isWithin_15 0 rfl ?_
    refine x_i2l dX4_isWithin_17 ?_
    refine x_lload_n dX4_isWithin_18 4 rfl ?_
    refine x_lif_gt (tgt := 27) dX4_isWithin_19 dX4_isWithin_20 (by decide) (fun c_20 => ?_) (fun c_20 => ?_)
    · refine x_iconst (v := 0) dX4_isWithin_27 (by decide) ?_
      exact x_zret dX4_isWithin_28 rfl rfl (by simp [c_12, c_20])
    · refine x_iconst (v := 1) dX4_isWithin_23 (by decide) ?_
      refine x_goto (tgt := 28) dX4_isWithin_24 (by decide) ?_
      exact x_zret dX4_isWithin_28 rfl rfl (by simp [c_12, c_20])

set_option maxRecDepth 100000 in
set_option maxHeartbeats 4000000 in
theorem c_holds2 {G : GT} {h : List PE} {thick area : Int64} {keeps kept : Int32} {c : Nat} {pu : Nat → Int32} {sv : Nat → Int64} {wt mk hh : Int32} {ta t1 t2 t3 t4 : Nat} (f21 : h[21]? = some (cO 4 [.ref 22, .ref 23, .ref 24, .int (lcI c), .long thick, .long area, .int keeps, .int kept])) (f23 : h[23]? = some (cI 96 pu)) (f24 : h[24]? = some (cJ 96 sv)) (fta : h[ta]? = some (cO 9 [.ref t1, .ref t2, .ref t3, .ref t4, .int wt, .int mk])) (hta : 3 ≤ ta) (hc : c ≤ 96) (hw : 1 ≤ wt) (hw0 : ¬ wt.toInt64 = 0) : CT G mX4_holds 3 67 [.ref 21, .ref ta, .int hh] h (fun o => o = (some (.int (if blO sv pu c thick area wt hh = -2 ∨ mk < blO sv pu c thick area wt hh then 0 else 1)), h)) := by
  show X (NF G) G mX4_holds 3 67 0 [(0, .ref 21), (1, .ref ta), (2, .int hh)] [] h _
  refine x_aload_n dX4_holds_0 0 rfl ?_
  refine x_aload_n dX4_holds_1 1 rfl ?_
  refine x_get (v := .int wt) dX4_holds_2 fX4_101 fta hta rfl ?_
  refine x_iload_n dX4_holds_5 2 rfl ?_
  refine x_callV (rf' := 2) (rl' := 45) [.int wt, .int hh] [] dX4_holds_6 vX4_104 Y_X4_blowOf f21 (by decide) rfl rfl (Nat.le_of_ble_eq_true rfl) (Nat.le_of_ble_eq_true rfl) (by decide) (by decide) (c_blowOf f21 f23 f24 hc hw hw0) (fun _ _ e1 => ?_)
  cases e1
  refine x_istore_n (lv2 := [(3, .int (blO sv pu c thick area wt hh)), (0, .ref 21), (1, .ref ta), (2, .int hh)]) dX4_holds_9 (by decide) rfl ?_
  refine x_iload_n dX4_holds_10 0 rfl ?_
  refine x_bipush (v := (-2)) dX4_holds_11 (by decide) ?_
  refine x_icmp_eq (tgt := 28) dX4_holds_13 (by decide) (fun c_13 => ?_) (fun c_13 => ?_)
  · refine x_iconst (v := 0) dX4_holds_28 (by decide) ?_
    exact x_zret dX4_holds_29 rfl rfl (by simp [c_13])
  · refine x_iload_n dX4_holds_16 0 rfl ?_
    refine x_aload_n dX4_holds_17 2 rfl ?_
    refine x_get (v := .int mk) dX4_holds_18 fX4_107 fta hta rfl ?_
    refine x_icmp_gt (tgt := 28) dX4_holds_21 (by decide) (fun c_21 => ?_) (fun c_21 => ?_)
    · refine x_iconst (v := 0) dX4_holds_28 (by decide) ?_
      exact x_zret dX4_holds_29 rfl rfl (by simp [c_13, c_21])
    · refine x_iconst (v := 1) dX4_holds_24 (by decide) ?_
      refine x_goto (tgt := 29) dX4_holds_25 (by decide) ?_
      exact x_zret dX4_holds_29 rfl rfl (by simp [c_13, c_21])

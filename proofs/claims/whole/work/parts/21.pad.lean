set_option maxRecDepth 100000 in
set_option maxHeartbeats 4000000 in
theorem c_layPad {G : GT} {h : List PE} {thick area : Int64} {keeps kept : Int32} {c : Nat} {a p q : Nat} {g1 g2 rec : Nat → Int32} {f np : Nat} {P U : Nat → Nat} {ke pr : Nat} {ta s1 s2 s3 s4 sd : Nat} {wt mk : Int32} {z2 : Nat → Option Nat} {z3 z4 : Nat → Int32} {fr pu : Nat → Int32} {sv : Nat → Int64} (f21 : h[21]? = some (cO 4 [.ref 22, .ref 23, .ref 24, .int (lcI c), .long thick, .long area, .int keeps, .int kept])) (f22 : h[22]? = some (cI 96 fr)) (f23 : h[23]? = some (cI 96 pu)) (f24 : h[24]? = some (cJ 96 sv)) (fta : h[ta]? = some (cO 9 [.ref s1, .ref s2, .ref s3, .ref s4, .int wt, .int mk])) (fs2 : h[s2]? = some (cR 4 6 z2)) (fs3 : h[s3]? = some (cI 6 z3)) (fs4 : h[s4]? = some (cI 6 z4)) (fa : h[a]? = some (cO 6 [.ref p, .ref q, .int (nI np), .int (rec (f + 1)), .int (rec (f + 2))])) (fp : h[p]? = some (cI 8 g1)) (fq : h[q]? = some (cI 8 g2)) (ha : 51 ≤ a) (hp : 51 ≤ p) (hq : 51 ≤ q) (WF : WFf rec f np P U ke pr) (hg : ∀ i, i < np → g1 i = rec (f + 3 + i) ∧ g2 i = rec (f + 11 + i)) (hta : 51 ≤ ta) (hs2 : 51 ≤ s2) (hs3 : 51 ≤ s3) (hs4 : 51 ≤ s4) (hsd : sd < 6) (hz : z2 sd = some a) : CT G mX4_layPad 3 64 [.ref 21, .ref ta, .int (nI sd)] h (fun o => o.1 = none ∧ ∃ (fr2 pu2 : Nat → Int32) (sv2 : Nat → Int64), o.2[21]? = some (cO 4 [.ref 22, .ref 23, .ref 24, .int (lcI (P (np - 1) + 1)), .long (z3 sd).toInt64, .long (z4 sd).toInt64, .int (rec (f + 1)), .int 100]) ∧ o.2[22]? = some (cI 96 fr2) ∧ o.2[23]? = some (cI 96 pu2) ∧ o.2[24]? = some (cJ 96 sv2) ∧ Sm [21, 22, 23, 24] h o.2 ∧ (∀ x, x < (P (np - 1) + 1) → ∃ k, IsSeg P np x k ∧ fr2 x = puR rec f k x) ∧ (∀ j, j < (P (np - 1) + 1) → pu2 j = fr2 j * 100 / 100) ∧ ∀ j, j < (P (np - 1) + 1) → sv2 j = stoF pu2 j) := by
  show X (NF G) G mX4_layPad 3 64 0 [(0, .ref 21), (1, .ref ta), (2, .int (nI sd))] [] h _
  refine x_iload_n dX4_layPad_0 2 rfl ?_
  refine x_callSN (rf' := 0) (rl' := 0) [.int (nI sd)] [] dX4_layPad_1 vX4_39 Y_X11_isSide rfl rfl (Nat.le_of_ble_eq_true rfl) (Nat.le_of_ble_eq_true rfl) (by decide) (by decide) c_isSide (fun _ _ e1 => ?_)
  cases e1
  rw [if_neg (show ¬ (nI sd < 0 ∨ (6 : Int32) ≤ nI sd) from fun q => q.elim (nI_pos (by omega)) (fun q => absurd ((nI_leI (a := 6) (by decide) (by omega)).mp q) (by omega)))]
  refine x_if_eq (tgt := 29) dX4_layPad_4 (by decide) (fun c_4 => absurd c_4 (by decide)) (fun c_4 => ?_)
  refine x_aload_n dX4_layPad_7 0 rfl ?_
  refine x_aload_n dX4_layPad_8 1 rfl ?_
  refine x_get (v := .ref s2) dX4_layPad_9 fX4_43 fta (by omega) rfl ?_
  refine x_iload_n dX4_layPad_12 2 rfl ?_
  refine x_aaldN (i := sd) (r := some a) rfl dX4_layPad_13 fs2 (by omega) (by omega) (by decide) hz ?_
  refine x_aload_n dX4_layPad_14 1 rfl ?_
  refine x_get (v := .ref s3) dX4_layPad_15 fX4_49 fta (by omega) rfl ?_
  refine x_iload_n dX4_layPad_18 2 rfl ?_
  refine x_ialdN (i := sd) dX4_layPad_19 fs3 (by omega) (by omega) (by decide) ?_
  refine x_aload_n dX4_layPad_20 1 rfl ?_
  refine x_get (v := .ref s4) dX4_layPad_21 fX4_52 fta (by omega) rfl ?_
  refine x_iload_n dX4_layPad_24 2 rfl ?_
  refine x_ialdN (i := sd) dX4_layPad_25 fs4 (by omega) (by omega) (by decide) ?_
  refine x_callV (rf' := 2) (rl' := 40) [.ref a, .int (z3 sd), .int (z4 sd)] [] dX4_layPad_26 vX4_55 Y_X4_layFoam f21 (by decide) rfl rfl (Nat.le_of_ble_eq_true rfl) (Nat.le_of_ble_eq_true rfl) (by decide) (by decide) (c_layFoam f21 f22 f23 f24 fa fp fq ha hp hq WF hg) (fun r h1 e1 => ?_)
  obtain ⟨e0, e2⟩ := e1
  cases e0
  exact x_vret dX4_layPad_29 rfl ⟨rfl, e2⟩

set_option maxRecDepth 100000 in
set_option maxHeartbeats 4000000 in
theorem c_layPadN {G : GT} {h : List PE} {thick area : Int64} {keeps kept : Int32} {c : Nat} {ta s1 s2 s3 s4 sd : Nat} {wt mk : Int32} {z2 : Nat → Option Nat} {z3 z4 : Nat → Int32} {fr pu : Nat → Int32} {sv : Nat → Int64} (f21 : h[21]? = some (cO 4 [.ref 22, .ref 23, .ref 24, .int (lcI c), .long thick, .long area, .int keeps, .int kept])) (f22 : h[22]? = some (cI 96 fr)) (f23 : h[23]? = some (cI 96 pu)) (f24 : h[24]? = some (cJ 96 sv)) (fta : h[ta]? = some (cO 9 [.ref s1, .ref s2, .ref s3, .ref s4, .int wt, .int mk])) (fs2 : h[s2]? = some (cR 4 6 z2)) (fs3 : h[s3]? = some (cI 6 z3)) (fs4 : h[s4]? = some (cI 6 z4)) (hta : 51 ≤ ta) (hs2 : 51 ≤ s2) (hs3 : 51 ≤ s3) (hs4 : 51 ≤ s4) (hsd : sd < 6) (hz : z2 sd = none) : CT G mX4_layPad 3 64 [.ref 21, .ref ta, .int (nI sd)] h (fun o => o.1 = none ∧ ∃ (fr2 pu2 : Nat → Int32) (sv2 : Nat → Int64), o.2[21]? = some (cO 4 [.ref 22, .ref 23, .ref 24, .int (lcI 0), .long (z3 sd).toInt64, .long (z4 sd).toInt64, .int 0, .int 100]) ∧ o.2[22]? = some (cI 96 fr2) ∧ o.2[23]? = some (cI 96 pu2) ∧ o.2[24]? = some (cJ 96 sv2) ∧ Sm [21, 22, 23, 24] h o.2) := by
  show X (NF G) G mX4_layPad 3 64 0 [(0, .ref 21), (1, .ref ta), (2, .int (nI sd))] [] h _
  refine x_iload_n dX4_layPad_0 2 rfl ?_
  refine x_callSN (rf' := 0) (rl' := 0) [.int (nI sd)] [] dX4_layPad_1 vX4_39 Y_X11_isSide rfl rfl (Nat.le_of_ble_eq_true rfl) (Nat.le_of_ble_eq_true rfl) (by decide) (by decide) c_isSide (fun _ _ e1 => ?_)
  cases e1
  rw [if_neg (show ¬ (nI sd < 0 ∨ (6 : Int32) ≤ nI sd) from fun q => q.elim (nI_pos (by omega)) (fun q => absurd ((nI_leI (a := 6) (by decide) (by omega)).mp q) (by omega)))]
  refine x_if_eq (tgt := 29) dX4_layPad_4 (by decide) (fun c_4 => absurd c_4 (by decide)) (fun c_4 => ?_)
  refine x_aload_n dX4_layPad_7 0 rfl ?_
  refine x_aload_n dX4_layPad_8 1 rfl ?_
  refine x_get (v := .ref s2) dX4_layPad_9 fX4_43 fta (by omega) rfl ?_
  refine x_iload_n dX4_layPad_12 2 rfl ?_
  refine x_aaldN (i := sd) (r := none) rfl dX4_layPad_13 fs2 (by omega) (by omega) (by decide) hz ?_
  refine x_aload_n dX4_layPad_14 1 rfl ?_
  refine x_get (v := .ref s3) dX4_layPad_15 fX4_49 fta (by omega) rfl ?_
  refine x_iload_n dX4_layPad_18 2 rfl ?_
  refine x_ialdN (i := sd) dX4_layPad_19 fs3 (by omega) (by omega) (by decide) ?_
  refine x_aload_n dX4_layPad_20 1 rfl ?_
  refine x_get (v := .ref s4) dX4_layPad_21 fX4_52 fta (by omega) rfl ?_
  refine x_iload_n dX4_layPad_24 2 rfl ?_
  refine x_ialdN (i := sd) dX4_layPad_25 fs4 (by omega) (by omega) (by decide) ?_
  refine x_callV (rf' := 2) (rl' := 40) [.null, .int (z3 sd), .int (z4 sd)] [] dX4_layPad_26 vX4_55 Y_X4_layFoam f21 (by decide) rfl rfl (Nat.le_of_ble_eq_true rfl) (Nat.le_of_ble_eq_true rfl) (by decide) (by decide) (c_layFoamN f21 f22 f23 f24) (fun r h1 e1 => ?_)
  obtain ⟨e0, e2⟩ := e1
  cases e0
  exact x_vret dX4_layPad_29 rfl ⟨rfl, e2⟩

theorem lcI_dec (i : Nat) : nI i + Int32.ofInt (-1) = lcI i := by
  unfold lcI
  rw [Int32.sub_eq_add_neg]
  rfl
/-- the days of the told books -/
def DaysAt (h : List PE) (n : Nat) (bq : Nat → Nat) (days : Nat → Int32) (zb : Nat → Option Nat) : Prop := ∀ k, k < n → zb k = some (bq k) ∧ 51 ≤ bq k ∧ ∃ (fs : List Value), h[bq k]? = some (cO 0 fs) ∧ fs[9]? = some (.int (days k)) ∧ fs.length = 10
def bookOf (bq : Nat → Nat) (o : Option Nat) : Nat := match o with
  | none => 16
  | some k => bq k

set_option maxRecDepth 100000 in
set_option maxHeartbeats 4000000 in
theorem l_asOf {G : GT} {h : List PE} {n : Nat} {td fk br t : Int32} {bq : Nat → Nat} {days : Nat → Int32} {zb : Nat → Option Nat} (f3 : h[3]? = some (cO 11 [.ref 4, .ref 6, .ref 15, .ref 16, .ref 21, .ref 25, .ref 32, .ref 35, .int (nI n), .int td, .int fk, .int br])) (f15 : h[15]? = some (cR 8 20 zb)) (hn : n ≤ 20) (hd : DaysAt h n bq days zb) : ∀ i, i ≤ n → X (NF G) G mX11_asOf 1 21 15 [(2, .int (lcI i)), (0, .ref 3), (1, .int t)] [] h (fun o => o = (some (.ref (bookOf bq (lastB days t i))), h)) := by
  intro i
  induction i with
  | zero =>
    intro _
    refine x_iload_n dX11_asOf_15 0 rfl ?_
    refine x_if_lt (tgt := 54) dX11_asOf_16 (by decide) (fun c_16 => ?_) (fun c_16 => absurd (by decide) c_16)
    refine x_aload_n dX11_asOf_54 1 rfl ?_
    refine x_get (v := .ref 16) dX11_asOf_55 fX11_30 f3 (by decide) rfl ?_
    exact x_aret (r := (some 16)) dX11_asOf_58 rfl (Or.inl ⟨_, rfl⟩) rfl
  | succ i ih =>
    intro hi
    obtain ⟨d1, d2, fs, d3, d4, d5⟩ := hd i (by omega)
    rw [lcI_succ]
    refine x_iload_n dX11_asOf_15 0 rfl ?_
    refine x_if_ltN (a := i) (by omega) (tgt := 54) dX11_asOf_16 (by decide) ?_
    refine x_aload_n dX11_asOf_19 1 rfl ?_
    refine x_get (v := .ref 15) dX11_asOf_20 fX11_25 f3 (by decide) rfl ?_
    refine x_iload_n dX11_asOf_23 0 rfl ?_
    refine x_aaldN (i := i) (r := some (bq i)) rfl dX11_asOf_24 f15 (by decide) (by omega) (by decide) d1 ?_
    refine x_ifnull dX11_asOf_25 ?_
    refine x_aload_n dX11_asOf_28 1 rfl ?_
    refine x_get (v := .ref 15) dX11_asOf_29 fX11_25 f3 (by decide) rfl ?_
    refine x_iload_n dX11_asOf_32 0 rfl ?_
    refine x_aaldN (i := i) (r := some (bq i)) rfl dX11_asOf_33 f15 (by decide) (by omega) (by decide) d1 ?_
    refine x_get (v := .int (days i)) dX11_asOf_34 fX11_267 d3 (by omega) d4 ?_
    refine x_iload_n dX11_asOf_37 2 rfl ?_
    refine x_icmp_gt (tgt := 48) dX11_asOf_38 (by decide) (fun c_38 => ?_) (fun c_38 => ?_)
    · refine x_iinc (lv2 := [(2, .int (lcI i)), (0, .ref 3), (1, .int t)]) dX11_asOf_48 0 rfl (lcI_dec i) (by decide) rfl ?_
      refine x_goto (tgt := 15) dX11_asOf_51 (by decide) ?_
      refine (ih (by omega)).weaken (fun o ho => ?_)
      rw [ho, lastB, if_neg (Int32.not_le.mpr c_38)]
    · refine x_aload_n dX11_asOf_41 1 rfl ?_
      refine x_get (v := .ref 15) dX11_asOf_42 fX11_25 f3 (by decide) rfl ?_
      refine x_iload_n dX11_asOf_45 0 rfl ?_
      refine x_aaldN (i := i) (r := some (bq i)) rfl dX11_asOf_46 f15 (by decide) (by omega) (by decide) d1 ?_
      exact x_aret (r := (some (((bq i))))) dX11_asOf_47 rfl (Or.inl ⟨_, rfl⟩) (by rw [lastB, if_pos (Int32.not_lt.mp c_38)]; rfl)

set_option maxRecDepth 100000 in
set_option maxHeartbeats 4000000 in
theorem c_asOf {G : GT} {h : List PE} {n : Nat} {td fk br t : Int32} {bq : Nat → Nat} {days : Nat → Int32} {zb : Nat → Option Nat} (f3 : h[3]? = some (cO 11 [.ref 4, .ref 6, .ref 15, .ref 16, .ref 21, .ref 25, .ref 32, .ref 35, .int (nI n), .int td, .int fk, .int br])) (f15 : h[15]? = some (cR 8 20 zb)) (hn : n ≤ 20) (hd : DaysAt h n bq days zb) : CT G mX11_asOf 1 21 [.ref 3, .int t] h (fun o => o = (some (.ref (bookOf bq (lastB days t n))), h)) := by
  show X (NF G) G mX11_asOf 1 21 0 [(0, .ref 3), (1, .int t)] [] h _
  refine x_aload_n dX11_asOf_0 0 rfl ?_
  refine x_get (v := .int (nI n)) dX11_asOf_1 fX11_59 f3 (by decide) rfl ?_
  refine x_aload_n dX11_asOf_4 0 rfl ?_
  refine x_get (v := .ref 15) dX11_asOf_5 fX11_25 f3 (by decide) rfl ?_
  refine x_alen (v := 20) rfl dX11_asOf_8 f15 (by decide) rfl ?_
  refine x_callS (rf' := 0) (rl' := 0) [.int (nI n), .int 20] [] dX11_asOf_9 vX11_270 Y_J9_min_7cf53 rfl rfl (Nat.le_of_ble_eq_true rfl) (Nat.le_of_ble_eq_true rfl) (by decide) (by decide) c_min (fun _ _ e1 => ?_)
  cases e1
  rw [if_neg (show ¬ (20 : Int32) < nI n from fun z => absurd ((nI_ltI (a := 20) (by decide) (by omega)).mp z) (by omega))]
  refine x_iconst (v := 1) dX11_asOf_12 (by decide) ?_
  refine x_isub dX11_asOf_13 ?_
  refine x_istore_n (lv2 := [(2, .int ((nI n) - 1)), (0, .ref 3), (1, .int t)]) dX11_asOf_14 (by decide) rfl ?_
  exact l_asOf f3 f15 hn hd n (Nat.le_refl n)

set_option maxRecDepth 100000 in
set_option maxHeartbeats 4000000 in
theorem c_isLetterT {G : GT} {h : List PE} {c : Nat} (hc : c < 256) : CT G mX10_isLetter 0 0 [.int (nI c)] h (fun o => o = (some (.int (if isLb c = true then 1 else 0)), h)) := by
  show X (NF G) G mX10_isLetter 0 0 0 [(0, .int (nI c))] [] h _
  refine x_iload_n dX10_isLetter_0 0 rfl ?_
  refine x_bipush (v := 97) dX10_isLetter_1 (by decide) ?_
  refine x_icmp_ltN (tgt := 16) (a := c) (b := 97) (by omega) (by omega) dX10_isLetter_3 (by decide) (fun c_3 => ?_) (fun c_3 => ?_)
  · refine x_iconst (v := 0) dX10_isLetter_16 (by decide) ?_
    exact x_zret dX10_isLetter_17 rfl rfl (by rw [if_neg (fun q => by have := isLb_iff.mp q; omega)])
  · refine x_iload_n dX10_isLetter_6 0 rfl ?_
    refine x_bipush (v := 122) dX10_isLetter_7 (by decide) ?_
    refine x_icmp_gtN (tgt := 16) (a := c) (b := 122) (by omega) (by omega) dX10_isLetter_9 (by decide) (fun c_9 => ?_) (fun c_9 => ?_)
    · refine x_iconst (v := 0) dX10_isLetter_16 (by decide) ?_
      exact x_zret dX10_isLetter_17 rfl rfl (by rw [if_neg (fun q => by have := isLb_iff.mp q; omega)])
    · refine x_iconst (v := 1) dX10_isLetter_12 (by decide) ?_
      refine x_goto (tgt := 17) dX10_isLetter_13 (by decide) ?_
      exact x_zret dX10_isLetter_17 rfl rfl (by rw [if_pos (isLb_iff.mpr ⟨by omega, by omega⟩)])

set_option maxRecDepth 100000 in
set_option maxHeartbeats 4000000 in
theorem c_isDigitT {G : GT} {h : List PE} {c : Nat} (hc : c < 256) : CT G mX10_isDigit 0 0 [.int (nI c)] h (fun o => o = (some (.int (if isDb c = true then 1 else 0)), h)) := by
  show X (NF G) G mX10_isDigit 0 0 0 [(0, .int (nI c))] [] h _
  refine x_iload_n dX10_isDigit_0 0 rfl ?_
  refine x_bipush (v := 48) dX10_isDigit_1 (by decide) ?_
  refine x_icmp_ltN (tgt := 16) (a := c) (b := 48) (by omega) (by omega) dX10_isDigit_3 (by decide) (fun c_3 => ?_) (fun c_3 => ?_)
  · refine x_iconst (v := 0) dX10_isDigit_16 (by decide) ?_
    exact x_zret dX10_isDigit_17 rfl rfl (by rw [if_neg (fun q => by have := isDb_iff.mp q; omega)])
  · refine x_iload_n dX10_isDigit_6 0 rfl ?_
    refine x_bipush (v := 57) dX10_isDigit_7 (by decide) ?_
    refine x_icmp_gtN (tgt := 16) (a := c) (b := 57) (by omega) (by omega) dX10_isDigit_9 (by decide) (fun c_9 => ?_) (fun c_9 => ?_)
    · refine x_iconst (v := 0) dX10_isDigit_16 (by decide) ?_
      exact x_zret dX10_isDigit_17 rfl rfl (by rw [if_neg (fun q => by have := isDb_iff.mp q; omega)])
    · refine x_iconst (v := 1) dX10_isDigit_12 (by decide) ?_
      refine x_goto (tgt := 17) dX10_isDigit_13 (by decide) ?_
      exact x_zret dX10_isDigit_17 rfl rfl (by rw [if_pos (isDb_iff.mpr ⟨by omega, by omega⟩)])

set_option maxRecDepth 100000 in
set_option maxHeartbeats 4000000 in
theorem c_isBlank {G : GT} {h : List PE} {c : Nat} (hc : c < 256) : CT G mX10_isBlank 0 0 [.int (nI c)] h (fun o => o = (some (.int (if isBb c = true then 1 else 0)), h)) := by
  show X (NF G) G mX10_isBlank 0 0 0 [(0, .int (nI c))] [] h _
  refine x_iload_n dX10_isBlank_0 0 rfl ?_
  refine x_bipush (v := 32) dX10_isBlank_1 (by decide) ?_
  refine x_icmp_eq (tgt := 12) dX10_isBlank_3 (by decide) (fun c_3 => ?_) (fun c_3 => ?_)
  · refine x_iconst (v := 1) dX10_isBlank_12 (by decide) ?_
    refine x_goto (tgt := 17) dX10_isBlank_13 (by decide) ?_
    exact x_zret dX10_isBlank_17 rfl rfl (by rw [if_pos (isBb_iff.mpr (Or.inl ((nI_eq (b := 32) (by omega) (by decide)).mp c_3)))])
  · refine x_iload_n dX10_isBlank_6 0 rfl ?_
    refine x_bipush (v := 10) dX10_isBlank_7 (by decide) ?_
    refine x_icmp_ne (tgt := 16) dX10_isBlank_9 (by decide) (fun c_9 => ?_) (fun c_9 => ?_)
    · refine x_iconst (v := 0) dX10_isBlank_16 (by decide) ?_
      exact x_zret dX10_isBlank_17 rfl rfl (by rw [if_neg (fun q => (isBb_iff.mp q).elim (fun z => c_3 (by rw [z]; rfl)) (fun z => c_9 (by rw [z]; rfl)))])
    · refine x_iconst (v := 1) dX10_isBlank_12 (by decide) ?_
      refine x_goto (tgt := 17) dX10_isBlank_13 (by decide) ?_
      exact x_zret dX10_isBlank_17 rfl rfl (by rw [if_pos (isBb_iff.mpr (Or.inr ((nI_eq (b := 10) (by omega) (by decide)).mp c_9)))])

def sgK (c : Nat) : Nat := if c = 59 then 19 else if c = 58 then 20 else 21

set_option maxRecDepth 100000 in
set_option maxHeartbeats 4000000 in
theorem c_kindOfSign {G : GT} {h : List PE} {c : Nat} (hc : c < 256) : CT G mX10_kindOfSign 0 0 [.int (nI c)] h (fun o => o = (some (.int (nI (sgK c))), h)) := by
  show X (NF G) G mX10_kindOfSign 0 0 0 [(0, .int (nI c))] [] h _
  refine x_iload_n dX10_kindOfSign_0 0 rfl ?_
  refine x_bipush (v := 59) dX10_kindOfSign_1 (by decide) ?_
  refine x_icmp_ne (tgt := 9) dX10_kindOfSign_3 (by decide) (fun c_3 => ?_) (fun c_3 => ?_)
  · refine x_iload_n dX10_kindOfSign_9 0 rfl ?_
    refine x_bipush (v := 58) dX10_kindOfSign_10 (by decide) ?_
    refine x_icmp_ne (tgt := 20) dX10_kindOfSign_12 (by decide) (fun c_12 => ?_) (fun c_12 => ?_)
    · refine x_bipush (v := 21) dX10_kindOfSign_20 (by decide) ?_
      exact x_iret dX10_kindOfSign_22 rfl (by unfold sgK; rw [if_neg (fun z => c_3 (by rw [z]; rfl)), if_neg (fun z => c_12 (by rw [z]; rfl))]; rfl)
    · refine x_bipush (v := 20) dX10_kindOfSign_15 (by decide) ?_
      refine x_goto (tgt := 22) dX10_kindOfSign_17 (by decide) ?_
      exact x_iret dX10_kindOfSign_22 rfl (by unfold sgK; rw [if_neg (fun z => c_3 (by rw [z]; rfl)), if_pos ((nI_eq (b := 58) (by omega) (by decide)).mp c_12)]; rfl)
  · refine x_bipush (v := 19) dX10_kindOfSign_6 (by decide) ?_
    exact x_iret dX10_kindOfSign_8 rfl (by unfold sgK; rw [if_pos ((nI_eq (b := 59) (by omega) (by decide)).mp c_3)]; rfl)

set_option maxRecDepth 100000 in
set_option maxHeartbeats 4000000 in
theorem c_withLetter {G : GT} {h : List PE} {c : Int64} {x : Int32} : CT G mX10_withLetter 0 0 [.long c, .int x] h (fun o => o = (some (.long (c * 32 + x.toInt64 - 97 + 1)), h)) := by
  show X (NF G) G mX10_withLetter 0 0 0 [(0, .long c), (2, .int x)] [] h _
  refine x_lload_n dX10_withLetter_0 0 rfl ?_
  refine x_ldc2 (v := 32) dX10_withLetter_1 kX10_90 ?_
  refine x_lmul dX10_withLetter_4 ?_
  refine x_iload_n dX10_withLetter_5 1 rfl ?_
  refine x_i2l dX10_withLetter_6 ?_
  refine x_ladd dX10_withLetter_7 ?_
  refine x_ldc2 (v := 97) dX10_withLetter_8 kX10_92 ?_
  refine x_lsub dX10_withLetter_11 ?_
  refine x_lconst (v := 1) dX10_withLetter_12 (by decide) ?_
  refine x_ladd dX10_withLetter_13 ?_
  exact x_lret dX10_withLetter_14 rfl rfl

set_option maxRecDepth 100000 in
set_option maxHeartbeats 4000000 in
theorem l_kindOfWord {G : GT} {h : List PE} {ln ep : Int32} {zr : Nat → Int64} {c : Int64} (hr : ∀ i, i < 17 → zr i = lN (k32 i)) (f7 : h[7]? = some (cO 10 [.ref 8, .ref 9, .ref 10, .ref 11, .int ln, .int ep])) (f8 : h[8]? = some (cJ 17 zr)) : ∀ (m i : Nat), 17 - i = m → i ≤ 17 → X (NF G) G mX10_kindOfWord 0 0 2 [(3, .int (nI i)), (0, .ref 7), (1, .long c)] [] h (fun o => o = (some (.int (nI (fsM (fun i => decide (lN (k32 i) = c)) m i))), h)) := by
  intro m
  induction m with
  | zero =>
    intro i hm hi
    refine x_iload_n dX10_kindOfWord_2 0 rfl ?_
    refine x_aload_n dX10_kindOfWord_3 1 rfl ?_
    refine x_get (v := .ref 8) dX10_kindOfWord_4 fX10_9 f7 (by decide) rfl ?_
    refine x_alen (v := 17) rfl dX10_kindOfWord_7 f8 (by decide) rfl ?_
    refine x_icmp_geN (tgt := 30) (a := i) (b := 17) (by omega) (by omega) dX10_kindOfWord_8 (by decide) (fun c_8 => ?_) (fun c_8 => absurd (by omega) c_8)
    refine x_bipush (v := 17) dX10_kindOfWord_30 (by decide) ?_
    exact x_iret dX10_kindOfWord_32 rfl (by rw [show i = 17 by omega]; rfl)
  | succ m ih =>
    intro i hm hi
    have e := hr i (by omega)
    refine x_iload_n dX10_kindOfWord_2 0 rfl ?_
    refine x_aload_n dX10_kindOfWord_3 1 rfl ?_
    refine x_get (v := .ref 8) dX10_kindOfWord_4 fX10_9 f7 (by decide) rfl ?_
    refine x_alen (v := 17) rfl dX10_kindOfWord_7 f8 (by decide) rfl ?_
    refine x_icmp_geN (tgt := 30) (a := i) (b := 17) (by omega) (by omega) dX10_kindOfWord_8 (by decide) (fun c_8 => absurd c_8 (by omega)) (fun c_8 => ?_)
    refine x_aload_n dX10_kindOfWord_11 1 rfl ?_
    refine x_get (v := .ref 8) dX10_kindOfWord_12 fX10_9 f7 (by decide) rfl ?_
    refine x_iload_n dX10_kindOfWord_15 0 rfl ?_
    refine x_laldN (i := i) dX10_kindOfWord_16 f8 (by decide) (by omega) (by decide) ?_
    refine x_lload_n dX10_kindOfWord_17 2 rfl ?_
    refine x_lif_ne (tgt := 24) dX10_kindOfWord_18 dX10_kindOfWord_19 (by decide) (fun c_19 => ?_) (fun c_19 => ?_)
    · refine x_iincN (lv2 := [(3, .int (nI (i + 1))), (0, .ref 7), (1, .long c)]) dX10_kindOfWord_24 0 rfl (by decide) rfl ?_
      refine x_goto (tgt := 2) dX10_kindOfWord_27 (by decide) ?_
      refine x_perm [0, 1, 2] rfl ?_
      exact (ih (i + 1) (by omega) (by omega)).weaken (fun o ho => by rw [ho, fsM, if_neg (by simp only [decide_eq_true_eq]; rw [← e]; exact c_19)])
    · refine x_iload_n dX10_kindOfWord_22 0 rfl ?_
      exact x_iret dX10_kindOfWord_23 rfl (by rw [fsM, if_pos (by simp only [decide_eq_true_eq]; rw [← e]; exact c_19)])

set_option maxRecDepth 100000 in
set_option maxHeartbeats 4000000 in
theorem c_kindOfWord {G : GT} {h : List PE} {ln ep : Int32} {zr : Nat → Int64} {c : Int64} (hr : ∀ i, i < 17 → zr i = lN (k32 i)) (f7 : h[7]? = some (cO 10 [.ref 8, .ref 9, .ref 10, .ref 11, .int ln, .int ep])) (f8 : h[8]? = some (cJ 17 zr)) : CT G mX10_kindOfWord 0 0 [.ref 7, .long c] h (fun o => o = (some (.int (nI (fsM (fun i => decide (lN (k32 i) = c)) 17 0))), h)) := by
  show X (NF G) G mX10_kindOfWord 0 0 0 [(0, .ref 7), (1, .long c)] [] h _
  refine x_iconst (v := 0) dX10_kindOfWord_0 (by decide) ?_
  refine x_istore_n (lv2 := [(3, .int 0), (0, .ref 7), (1, .long c)]) dX10_kindOfWord_1 (by decide) rfl ?_
  refine x_perm (lv2 := [(3, .int (nI 0)), (0, .ref 7), (1, .long c)]) [0, 1, 2] rfl ?_
  exact l_kindOfWord hr f7 f8 17 0 rfl (by omega)

set_option maxRecDepth 100000 in
set_option maxHeartbeats 4000000 in
theorem c_addT {G : GT} {h : List PE} {i : Nat} {ep k p : Int32} {v : Int64} {z9 z10 : Nat → Int32} {z11 : Nat → Int64} (hi : i < 600) (f7 : h[7]? = some (cO 10 [.ref 8, .ref 9, .ref 10, .ref 11, .int (nI i), .int ep])) (f9 : h[9]? = some (cI 600 z9)) (f10 : h[10]? = some (cI 600 z10)) (f11 : h[11]? = some (cJ 600 z11)) : CT G mX10_add 0 0 [.ref 7, .int k, .int p, .long v] h (fun o => o.1 = none ∧ o.2[7]? = some (cO 10 [.ref 8, .ref 9, .ref 10, .ref 11, .int (nI (i + 1)), .int ep]) ∧ o.2[9]? = some (cI 600 ((upd z9 i k))) ∧ o.2[10]? = some (cI 600 ((upd z10 i p))) ∧ o.2[11]? = some (cJ 600 ((vp_updL z11 i v))) ∧ Sm [7, 9, 10, 11] h o.2) := by
  have sm0 : Sm [7, 9, 10, 11] h h := Sm.rf
  show X (NF G) G mX10_add 0 0 0 [(0, .ref 7), (1, .int k), (2, .int p), (3, .long v)] [] h _
  refine x_aload_n dX10_add_0 0 rfl ?_
  refine x_get (v := .int (nI i)) dX10_add_1 fX10_23 f7 (by decide) rfl ?_
  refine x_sipush (v := 600) dX10_add_4 (by decide) ?_
  refine x_icmp_geN (tgt := 50) (a := i) (b := 600) (by omega) (by omega) dX10_add_7 (by decide) (fun c_7 => absurd c_7 (by omega)) (fun c_7 => ?_)
  refine x_aload_n dX10_add_10 0 rfl ?_
  refine x_get (v := .ref 9) dX10_add_11 fX10_13 f7 (by decide) rfl ?_
  refine x_aload_n dX10_add_14 0 rfl ?_
  refine x_get (v := .int (nI i)) dX10_add_15 fX10_23 f7 (by decide) rfl ?_
  refine x_iload_n dX10_add_18 1 rfl ?_
  refine x_iastN (i := i) dX10_add_19 f9 (by decide) (by omega) (by decide) (fun h101 a102 e103 l104 s105 => ?_)
  have f106 := (e103 7 (by decide)).trans f7
  have f107 := (e103 10 (by decide)).trans f10
  have f108 := (e103 11 (by decide)).trans f11
  have sm109 := Sm.put sm0 e103 l104 s105 (by decide)
  refine x_aload_n dX10_add_20 0 rfl ?_
  refine x_get (v := .ref 10) dX10_add_21 fX10_17 f106 (by decide) rfl ?_
  refine x_aload_n dX10_add_24 0 rfl ?_
  refine x_get (v := .int (nI i)) dX10_add_25 fX10_23 f106 (by decide) rfl ?_
  refine x_iload_n dX10_add_28 2 rfl ?_
  refine x_iastN (i := i) dX10_add_29 f107 (by decide) (by omega) (by decide) (fun h110 a111 e112 l113 s114 => ?_)
  have f115 := (e112 7 (by decide)).trans f106
  have f116 := (e112 9 (by decide)).trans a102
  have f117 := (e112 11 (by decide)).trans f108
  have sm118 := Sm.put sm109 e112 l113 s114 (by decide)
  refine x_aload_n dX10_add_30 0 rfl ?_
  refine x_get (v := .ref 11) dX10_add_31 fX10_20 f115 (by decide) rfl ?_
  refine x_aload_n dX10_add_34 0 rfl ?_
  refine x_get (v := .int (nI i)) dX10_add_35 fX10_23 f115 (by decide) rfl ?_
  refine x_lload_n dX10_add_38 3 rfl ?_
  refine x_lastN (i := i) dX10_add_39 f117 (by decide) (by omega) (by decide) (fun h119 a120 e121 l122 s123 => ?_)
  have f124 := (e121 7 (by decide)).trans f115
  have f125 := (e121 9 (by decide)).trans f116
  have f126 := (e121 10 (by decide)).trans a111
  have sm127 := Sm.put sm118 e121 l122 s123 (by decide)
  refine x_aload_n dX10_add_40 0 rfl ?_
  refine x_dup dX10_add_41 rfl ?_
  refine x_get (v := .int (nI i)) dX10_add_42 fX10_23 f124 (by decide) rfl ?_
  refine x_iconst (v := 1) dX10_add_45 (by decide) ?_
  refine x_iaddN (a := i) (b := 1) dX10_add_46 ?_
  refine x_put (fs2 := [.ref 8, .ref 9, .ref 10, .ref 11, .int (nI (i + 1)), .int ep]) dX10_add_47 fX10_23 (Or.inl rfl) f124 (by decide) rfl rfl (Nat.le_of_ble_eq_true rfl) rfl (fun h128 a129 e130 l131 s132 => ?_)
  have f133 := (e130 9 (by decide)).trans f125
  have f134 := (e130 10 (by decide)).trans f126
  have f135 := (e130 11 (by decide)).trans a120
  have sm136 := Sm.put sm127 e130 l131 s132 (by decide)
  exact x_vret dX10_add_50 rfl ⟨rfl, a129, f133, f134, f135, sm136⟩

set_option maxRecDepth 100000 in
set_option maxHeartbeats 4000000 in
theorem l_scanRun {G : GT} {h : List PE} {tn q : Nat} {tv : Nat → Nat} (hT : TpR h tn tv) (htn : tn ≤ 640) (hv : ∀ j, j < tn → tv j < 256) (hq : q < tn) (ha : isAb (tv q) = true) {Q : OT → Prop} (KX : X (NF G) G mX10_scanRun 1 24 87 [(9, .int (nI (q + (tkN tn tv q)))), (7, .long (nuF (tkf tv q) (tkN tn tv q))), (5, .long (c32F (tkf tv q) (tkN tn tv q))), (4, .int (nI (cnF isDb (tkf tv q) (tkN tn tv q)))), (3, .int (nI (cnF isLb (tkf tv q) (tkN tn tv q)))), (0, .ref 7), (1, .ref 4), (2, .int (nI q))] [] h Q) : ∀ (m k : Nat), tkN tn tv q - k = m → k ≤ tkN tn tv q → X (NF G) G mX10_scanRun 1 24 14 [(9, .int (nI (q + k))), (7, .long (nuF (tkf tv q) k)), (5, .long (c32F (tkf tv q) k)), (4, .int (nI (cnF isDb (tkf tv q) k))), (3, .int (nI (cnF isLb (tkf tv q) k))), (0, .ref 7), (1, .ref 4), (2, .int (nI q))] [] h Q := by
  obtain ⟨tb, f4, f5, e5⟩ := id hT
  obtain ⟨n1, n2, n3, n4⟩ := tkN_spec hq ha
  intro m
  induction m with
  | zero =>
    intro k hm hk
    have ek : k = tkN tn tv q := by omega
    subst ek
    refine x_iload dX10_scanRun_14 0 rfl ?_
    refine x_aload_n dX10_scanRun_16 6 rfl ?_
    refine x_get (v := .int (nI tn)) dX10_scanRun_17 fX10_45 f4 (by decide) rfl ?_
    refine x_icmp_geN (tgt := 87) (a := (q + (tkN tn tv q))) (b := tn) (by omega) (by omega) dX10_scanRun_20 (by decide) (fun c_20 => ?_) (fun c_20 => ?_)
    · refine x_perm [0, 1, 2, 3, 4, 5, 6, 7] rfl ?_
      exact KX
    · refine x_aload_n dX10_scanRun_23 6 rfl ?_
      refine x_iload dX10_scanRun_24 0 rfl ?_
      refine x_callV (rf' := 0) (rl' := 0) [.int (nI (q + (tkN tn tv q)))] [] dX10_scanRun_26 vX10_54 Y_X8_byteAt f4 (by decide) rfl rfl (Nat.le_of_ble_eq_true rfl) (Nat.le_of_ble_eq_true rfl) (by decide) (by decide) (c_byteL hT htn (by omega)) (fun _ _ e1 => ?_)
      cases e1
      refine x_istore (lv2 := [(10, .int (nI (tv (q + tkN tn tv q)))), (9, .int (nI (q + (tkN tn tv q)))), (7, .long (nuF (tkf tv q) (tkN tn tv q))), (5, .long (c32F (tkf tv q) (tkN tn tv q))), (4, .int (nI (cnF isDb (tkf tv q) (tkN tn tv q)))), (3, .int (nI (cnF isLb (tkf tv q) (tkN tn tv q)))), (0, .ref 7), (1, .ref 4), (2, .int (nI q))]) dX10_scanRun_29 (by decide) rfl ?_
      refine x_iload dX10_scanRun_31 0 rfl ?_
      refine x_callS (rf' := 0) (rl' := 0) [.int (nI (tv (q + tkN tn tv q)))] [] dX10_scanRun_33 vX10_58 Y_X10_isLetter rfl rfl (Nat.le_of_ble_eq_true rfl) (Nat.le_of_ble_eq_true rfl) (by decide) (by decide) (c_isLetterT (hv _ (by omega))) (fun _ _ e1 => ?_)
      cases e1
      rw [if_neg (fun z => by have := isLb_iff.mp z; have := mt isAb_iff.mpr (by rw [n4 (by omega)]; decide); omega)]
      refine x_if_eq (tgt := 54) dX10_scanRun_36 (by decide) (fun c_36 => ?_) (fun c_36 => absurd (by decide) c_36)
      refine x_iload dX10_scanRun_54 0 rfl ?_
      refine x_callS (rf' := 0) (rl' := 0) [.int (nI (tv (q + tkN tn tv q)))] [] dX10_scanRun_56 vX10_62 Y_X10_isDigit rfl rfl (Nat.le_of_ble_eq_true rfl) (Nat.le_of_ble_eq_true rfl) (by decide) (by decide) (c_isDigitT (hv _ (by omega))) (fun _ _ e1 => ?_)
      cases e1
      rw [if_neg (fun z => by have := isDb_iff.mp z; have := mt isAb_iff.mpr (by rw [n4 (by omega)]; decide); omega)]
      refine x_if_eq (tgt := 87) dX10_scanRun_59 (by decide) (fun c_59 => ?_) (fun c_59 => absurd (by decide) c_59)
      refine x_perm [1, 2, 3, 4, 5, 6, 7, 8] rfl ?_
      exact KX
  | succ m ih =>
    intro k hm hk
    have hk2 := n3 k (by omega)
    have I := ih (k + 1) (by omega) (by omega)
    by_cases hl : isLb (tv (q + k)) = true
    · have d0 : ¬ isDb (tv (q + k)) = true := fun z => by have := isLb_iff.mp hl; have := isDb_iff.mp z; omega
      rw [show cnF isLb (tkf tv q) (k + 1) = cnF isLb (tkf tv q) k + 1 by rw [cnF, if_pos hl], show cnF isDb (tkf tv q) (k + 1) = cnF isDb (tkf tv q) k by rw [cnF, if_neg d0]; rfl, show c32F (tkf tv q) (k + 1) = c32F (tkf tv q) k * 32 + (nI (tv (q + k))).toInt64 - 97 + 1 by rw [c32F, if_pos hl], show nuF (tkf tv q) (k + 1) = nuF (tkf tv q) k by rw [nuF, if_pos hl]] at I
      refine x_iload dX10_scanRun_14 0 rfl ?_
      refine x_aload_n dX10_scanRun_16 6 rfl ?_
      refine x_get (v := .int (nI tn)) dX10_scanRun_17 fX10_45 f4 (by decide) rfl ?_
      refine x_icmp_geN (tgt := 87) (a := (q + k)) (b := tn) (by omega) (by omega) dX10_scanRun_20 (by decide) (fun c_20 => absurd c_20 (by omega)) (fun c_20 => ?_)
      refine x_aload_n dX10_scanRun_23 6 rfl ?_
      refine x_iload dX10_scanRun_24 0 rfl ?_
      refine x_callV (rf' := 0) (rl' := 0) [.int (nI (q + k))] [] dX10_scanRun_26 vX10_54 Y_X8_byteAt f4 (by decide) rfl rfl (Nat.le_of_ble_eq_true rfl) (Nat.le_of_ble_eq_true rfl) (by decide) (by decide) (c_byteL hT htn (by omega)) (fun _ _ e1 => ?_)
      cases e1
      refine x_istore (lv2 := [(10, .int (nI (tv (q + k)))), (9, .int (nI (q + k))), (7, .long (nuF (tkf tv q) k)), (5, .long (c32F (tkf tv q) k)), (4, .int (nI (cnF isDb (tkf tv q) k))), (3, .int (nI (cnF isLb (tkf tv q) k))), (0, .ref 7), (1, .ref 4), (2, .int (nI q))]) dX10_scanRun_29 (by decide) rfl ?_
      refine x_iload dX10_scanRun_31 0 rfl ?_
      refine x_callS (rf' := 0) (rl' := 0) [.int (nI (tv (q + k)))] [] dX10_scanRun_33 vX10_58 Y_X10_isLetter rfl rfl (Nat.le_of_ble_eq_true rfl) (Nat.le_of_ble_eq_true rfl) (by decide) (by decide) (c_isLetterT (hv _ (by omega))) (fun _ _ e1 => ?_)
      cases e1
      rw [if_pos hl]
      refine x_if_eq (tgt := 54) dX10_scanRun_36 (by decide) (fun c_36 => absurd c_36 (by decide)) (fun c_36 => ?_)
      refine x_iincN (lv2 := [(3, .int (nI ((cnF isLb (tkf tv q) k) + 1))), (10, .int (nI (tv (q + k)))), (9, .int (nI (q + k))), (7, .long (nuF (tkf tv q) k)), (5, .long (c32F (tkf tv q) k)), (4, .int (nI (cnF isDb (tkf tv q) k))), (0, .ref 7), (1, .ref 4), (2, .int (nI q))]) dX10_scanRun_39 5 rfl (by decide) rfl ?_
      refine x_lload dX10_scanRun_42 4 rfl ?_
      refine x_iload dX10_scanRun_44 1 rfl ?_
      refine x_callS (rf' := 0) (rl' := 0) [.long (c32F (tkf tv q) k), .int (nI (tv (q + k)))] [] dX10_scanRun_46 vX10_41 Y_X10_withLetter rfl rfl (Nat.le_of_ble_eq_true rfl) (Nat.le_of_ble_eq_true rfl) (by decide) (by decide) c_withLetter (fun _ _ e1 => ?_)
      cases e1
      refine x_lstore (lv2 := [(5, .long (c32F (tkf tv q) k * 32 + (nI (tv (q + k))).toInt64 - 97 + 1)), (3, .int (nI ((cnF isLb (tkf tv q) k) + 1))), (10, .int (nI (tv (q + k)))), (9, .int (nI (q + k))), (7, .long (nuF (tkf tv q) k)), (4, .int (nI (cnF isDb (tkf tv q) k))), (0, .ref 7), (1, .ref 4), (2, .int (nI q))]) dX10_scanRun_49 (by decide) rfl ?_
      refine x_goto (tgt := 81) dX10_scanRun_51 (by decide) ?_
      refine x_iincN (lv2 := [(9, .int (nI ((q + k) + 1))), (5, .long (c32F (tkf tv q) k * 32 + (nI (tv (q + k))).toInt64 - 97 + 1)), (3, .int (nI ((cnF isLb (tkf tv q) k) + 1))), (10, .int (nI (tv (q + k)))), (7, .long (nuF (tkf tv q) k)), (4, .int (nI (cnF isDb (tkf tv q) k))), (0, .ref 7), (1, .ref 4), (2, .int (nI q))]) dX10_scanRun_81 3 rfl (by decide) rfl ?_
      refine x_goto (tgt := 14) dX10_scanRun_84 (by decide) ?_
      refine x_perm [0, 4, 1, 5, 2, 6, 7, 8] rfl ?_
      exact I
    · have hd : isDb (tv (q + k)) = true := isDb_iff.mpr (by have := isAb_iff.mp hk2; have := mt isLb_iff.mpr hl; omega)
      rw [show cnF isLb (tkf tv q) (k + 1) = cnF isLb (tkf tv q) k by rw [cnF, if_neg hl]; rfl, show cnF isDb (tkf tv q) (k + 1) = cnF isDb (tkf tv q) k + 1 by rw [cnF, if_pos hd], show c32F (tkf tv q) (k + 1) = c32F (tkf tv q) k by rw [c32F, if_neg hl], show nuF (tkf tv q) (k + 1) = nuF (tkf tv q) k * 10 + (nI (tv (q + k))).toInt64 - 48 by rw [nuF, if_neg hl]] at I
      refine x_iload dX10_scanRun_14 0 rfl ?_
      refine x_aload_n dX10_scanRun_16 6 rfl ?_
      refine x_get (v := .int (nI tn)) dX10_scanRun_17 fX10_45 f4 (by decide) rfl ?_
      refine x_icmp_geN (tgt := 87) (a := (q + k)) (b := tn) (by omega) (by omega) dX10_scanRun_20 (by decide) (fun c_20 => absurd c_20 (by omega)) (fun c_20 => ?_)
      refine x_aload_n dX10_scanRun_23 6 rfl ?_
      refine x_iload dX10_scanRun_24 0 rfl ?_
      refine x_callV (rf' := 0) (rl' := 0) [.int (nI (q + k))] [] dX10_scanRun_26 vX10_54 Y_X8_byteAt f4 (by decide) rfl rfl (Nat.le_of_ble_eq_true rfl) (Nat.le_of_ble_eq_true rfl) (by decide) (by decide) (c_byteL hT htn (by omega)) (fun _ _ e1 => ?_)
      cases e1
      refine x_istore (lv2 := [(10, .int (nI (tv (q + k)))), (9, .int (nI (q + k))), (7, .long (nuF (tkf tv q) k)), (5, .long (c32F (tkf tv q) k)), (4, .int (nI (cnF isDb (tkf tv q) k))), (3, .int (nI (cnF isLb (tkf tv q) k))), (0, .ref 7), (1, .ref 4), (2, .int (nI q))]) dX10_scanRun_29 (by decide) rfl ?_
      refine x_iload dX10_scanRun_31 0 rfl ?_
      refine x_callS (rf' := 0) (rl' := 0) [.int (nI (tv (q + k)))] [] dX10_scanRun_33 vX10_58 Y_X10_isLetter rfl rfl (Nat.le_of_ble_eq_true rfl) (Nat.le_of_ble_eq_true rfl) (by decide) (by decide) (c_isLetterT (hv _ (by omega))) (fun _ _ e1 => ?_)
      cases e1
      rw [if_neg hl]
      refine x_if_eq (tgt := 54) dX10_scanRun_36 (by decide) (fun c_36 => ?_) (fun c_36 => absurd (by decide) c_36)
      refine x_iload dX10_scanRun_54 0 rfl ?_
      refine x_callS (rf' := 0) (rl' := 0) [.int (nI (tv (q + k)))] [] dX10_scanRun_56 vX10_62 Y_X10_isDigit rfl rfl (Nat.le_of_ble_eq_true rfl) (Nat.le_of_ble_eq_true rfl) (by decide) (by decide) (c_isDigitT (hv _ (by omega))) (fun _ _ e1 => ?_)
      cases e1
      rw [if_pos hd]
      refine x_if_eq (tgt := 87) dX10_scanRun_59 (by decide) (fun c_59 => absurd c_59 (by decide)) (fun c_59 => ?_)
      refine x_iincN (lv2 := [(4, .int (nI ((cnF isDb (tkf tv q) k) + 1))), (10, .int (nI (tv (q + k)))), (9, .int (nI (q + k))), (7, .long (nuF (tkf tv q) k)), (5, .long (c32F (tkf tv q) k)), (3, .int (nI (cnF isLb (tkf tv q) k))), (0, .ref 7), (1, .ref 4), (2, .int (nI q))]) dX10_scanRun_62 4 rfl (by decide) rfl ?_
      refine x_lload dX10_scanRun_65 3 rfl ?_
      refine x_ldc2 (v := 10) dX10_scanRun_67 kX10_82 ?_
      refine x_lmul dX10_scanRun_70 ?_
      refine x_iload dX10_scanRun_71 1 rfl ?_
      refine x_i2l dX10_scanRun_73 ?_
      refine x_ladd dX10_scanRun_74 ?_
      refine x_ldc2 (v := 48) dX10_scanRun_75 kX10_84 ?_
      refine x_lsub dX10_scanRun_78 ?_
      refine x_lstore (lv2 := [(7, .long ((((nuF (tkf tv q) k) * 10) + ((nI (tv (q + k)))).toInt64) - 48)), (4, .int (nI ((cnF isDb (tkf tv q) k) + 1))), (10, .int (nI (tv (q + k)))), (9, .int (nI (q + k))), (5, .long (c32F (tkf tv q) k)), (3, .int (nI (cnF isLb (tkf tv q) k))), (0, .ref 7), (1, .ref 4), (2, .int (nI q))]) dX10_scanRun_79 (by decide) rfl ?_
      refine x_iincN (lv2 := [(9, .int (nI ((q + k) + 1))), (7, .long ((((nuF (tkf tv q) k) * 10) + ((nI (tv (q + k)))).toInt64) - 48)), (4, .int (nI ((cnF isDb (tkf tv q) k) + 1))), (10, .int (nI (tv (q + k)))), (5, .long (c32F (tkf tv q) k)), (3, .int (nI (cnF isLb (tkf tv q) k))), (0, .ref 7), (1, .ref 4), (2, .int (nI q))]) dX10_scanRun_81 3 rfl (by decide) rfl ?_
      refine x_goto (tgt := 14) dX10_scanRun_84 (by decide) ?_
      refine x_perm [0, 1, 4, 2, 5, 6, 7, 8] rfl ?_
      exact I

set_option maxRecDepth 100000 in
set_option maxHeartbeats 4000000 in
theorem c_scanRun {G : GT} {h : List PE} {tn q : Nat} {tv : Nat → Nat} (hT : TpR h tn tv) (htn : tn ≤ 640) (hv : ∀ j, j < tn → tv j < 256) (hq : q < tn) (ha : isAb (tv q) = true) {i : Nat} {ep : Int32} {zr : Nat → Int64} {z9 z10 : Nat → Int32} {z11 : Nat → Int64} (hi : i < 600) (hr : ∀ i, i < 17 → zr i = lN (k32 i)) (f7 : h[7]? = some (cO 10 [.ref 8, .ref 9, .ref 10, .ref 11, .int (nI i), .int ep])) (f8 : h[8]? = some (cJ 17 zr)) (f9 : h[9]? = some (cI 600 z9)) (f10 : h[10]? = some (cI 600 z10)) (f11 : h[11]? = some (cJ 600 z11)) : CT G mX10_scanRun 1 24 [.ref 7, .ref 4, .int (nI q)] h (fun o => o.1 = some (.int (nI (q + tkN tn tv q))) ∧ ∃ v : Int64, o.2[7]? = some (cO 10 [.ref 8, .ref 9, .ref 10, .ref 11, .int (nI (i + 1)), .int ep]) ∧ o.2[9]? = some (cI 600 ((upd z9 i (nI (tkK tn tv q))))) ∧ o.2[10]? = some (cI 600 ((upd z10 i (nI q)))) ∧ o.2[11]? = some (cJ 600 ((vp_updL z11 i v))) ∧ Sm [7, 9, 10, 11] h o.2 ∧ (tkK tn tv q ≤ 17 → v = lN (tkC tn tv q)) ∧ (tkK tn tv q = 18 → v = lN (tkV tn tv q))) := by
  obtain ⟨tb, f4, f5, e5⟩ := id hT
  obtain ⟨n1, n2, n3, n4⟩ := tkN_spec hq ha
  obtain ⟨R1, R2⟩ := run_cls hq ha
  have hs := cnF_sum (f := (tkf tv q)) (tkN tn tv q) n3
  show X (NF G) G mX10_scanRun 1 24 0 [(0, .ref 7), (1, .ref 4), (2, .int (nI q))] [] h _
  refine x_iconst (v := 0) dX10_scanRun_0 (by decide) ?_
  refine x_istore_n (lv2 := [(3, .int 0), (0, .ref 7), (1, .ref 4), (2, .int (nI q))]) dX10_scanRun_1 (by decide) rfl ?_
  refine x_iconst (v := 0) dX10_scanRun_2 (by decide) ?_
  refine x_istore (lv2 := [(4, .int 0), (3, .int 0), (0, .ref 7), (1, .ref 4), (2, .int (nI q))]) dX10_scanRun_3 (by decide) rfl ?_
  refine x_lconst (v := 0) dX10_scanRun_5 (by decide) ?_
  refine x_lstore (lv2 := [(5, .long 0), (4, .int 0), (3, .int 0), (0, .ref 7), (1, .ref 4), (2, .int (nI q))]) dX10_scanRun_6 (by decide) rfl ?_
  refine x_lconst (v := 0) dX10_scanRun_8 (by decide) ?_
  refine x_lstore (lv2 := [(7, .long 0), (5, .long 0), (4, .int 0), (3, .int 0), (0, .ref 7), (1, .ref 4), (2, .int (nI q))]) dX10_scanRun_9 (by decide) rfl ?_
  refine x_iload_n dX10_scanRun_11 6 rfl ?_
  refine x_istore (lv2 := [(9, .int (nI q)), (7, .long 0), (5, .long 0), (4, .int 0), (3, .int 0), (0, .ref 7), (1, .ref 4), (2, .int (nI q))]) dX10_scanRun_12 (by decide) rfl ?_
  refine x_perm (lv2 := [(9, .int (nI (q + 0))), (7, .long (nuF (tkf tv q) 0)), (5, .long (c32F (tkf tv q) 0)), (4, .int (nI (cnF isDb (tkf tv q) 0))), (3, .int (nI (cnF isLb (tkf tv q) 0))), (0, .ref 7), (1, .ref 4), (2, .int (nI q))]) [0, 1, 2, 3, 4, 5, 6, 7] rfl ?_
  refine l_scanRun hT htn hv hq ha ?_ _ 0 rfl (by omega)
  refine x_iload dX10_scanRun_87 3 rfl ?_
  refine x_if_neN (tgt := 114) (a := (cnF isDb (tkf tv q) (tkN tn tv q))) (by omega) dX10_scanRun_89 (by decide) (fun c_89 => ?_) (fun c_89 => ?_)
  · refine x_aload_n dX10_scanRun_114 5 rfl ?_
    refine x_iload_n dX10_scanRun_115 4 rfl ?_
    refine x_if_neN (tgt := 130) (a := (cnF isLb (tkf tv q) (tkN tn tv q))) (by omega) dX10_scanRun_116 (by decide) (fun c_116 => ?_) (fun c_116 => ?_)
    · refine x_bipush (v := 21) dX10_scanRun_130 (by decide) ?_
      refine x_iload_n dX10_scanRun_132 7 rfl ?_
      refine x_lload dX10_scanRun_133 1 rfl ?_
      have kk : tkK tn tv q = 21 := (R2 (fun z => by omega)).2 (fun z => by omega)
      rw [show (21 : Int32) = nI (tkK tn tv q) by rw [kk]; rfl]
      refine x_callV (rf' := 0) (rl' := 0) [.int (nI (tkK tn tv q)), .int (nI q), .long (nuF (tkf tv q) (tkN tn tv q))] [] dX10_scanRun_135 vX10_78 Y_X10_add f7 (by decide) rfl rfl (Nat.le_of_ble_eq_true rfl) (Nat.le_of_ble_eq_true rfl) (by decide) (by decide) (c_addT hi f7 f9 f10 f11) (fun r h1 e1 => ?_)
      obtain ⟨e0, g7, g9, g10, g11, sm1⟩ := e1
      cases e0
      refine x_iload dX10_scanRun_138 0 rfl ?_
      exact x_iret dX10_scanRun_140 rfl ⟨rfl, _, g7, g9, g10, g11, sm1, ⟨fun z => by omega, fun z => by omega⟩⟩
    · refine x_iload dX10_scanRun_119 3 rfl ?_
      refine x_iconst (v := 5) dX10_scanRun_121 (by decide) ?_
      refine x_icmp_gtN (tgt := 130) (a := (cnF isDb (tkf tv q) (tkN tn tv q))) (b := 5) (by omega) (by omega) dX10_scanRun_122 (by decide) (fun c_122 => ?_) (fun c_122 => ?_)
      · refine x_bipush (v := 21) dX10_scanRun_130 (by decide) ?_
        refine x_iload_n dX10_scanRun_132 7 rfl ?_
        refine x_lload dX10_scanRun_133 1 rfl ?_
        have kk : tkK tn tv q = 21 := (R2 (fun z => by omega)).2 (fun z => by omega)
        rw [show (21 : Int32) = nI (tkK tn tv q) by rw [kk]; rfl]
        refine x_callV (rf' := 0) (rl' := 0) [.int (nI (tkK tn tv q)), .int (nI q), .long (nuF (tkf tv q) (tkN tn tv q))] [] dX10_scanRun_135 vX10_78 Y_X10_add f7 (by decide) rfl rfl (Nat.le_of_ble_eq_true rfl) (Nat.le_of_ble_eq_true rfl) (by decide) (by decide) (c_addT hi f7 f9 f10 f11) (fun r h1 e1 => ?_)
        obtain ⟨e0, g7, g9, g10, g11, sm1⟩ := e1
        cases e0
        refine x_iload dX10_scanRun_138 0 rfl ?_
        exact x_iret dX10_scanRun_140 rfl ⟨rfl, _, g7, g9, g10, g11, sm1, ⟨fun z => by omega, fun z => by omega⟩⟩
      · refine x_bipush (v := 18) dX10_scanRun_125 (by decide) ?_
        refine x_goto (tgt := 132) dX10_scanRun_127 (by decide) ?_
        refine x_iload_n dX10_scanRun_132 7 rfl ?_
        refine x_lload dX10_scanRun_133 1 rfl ?_
        have kk : tkK tn tv q = 18 := ((R2 (fun z => by omega)).1 ⟨by omega, by omega⟩).1
        rw [show (18 : Int32) = nI (tkK tn tv q) by rw [kk]; rfl]
        refine x_callV (rf' := 0) (rl' := 0) [.int (nI (tkK tn tv q)), .int (nI q), .long (nuF (tkf tv q) (tkN tn tv q))] [] dX10_scanRun_135 vX10_78 Y_X10_add f7 (by decide) rfl rfl (Nat.le_of_ble_eq_true rfl) (Nat.le_of_ble_eq_true rfl) (by decide) (by decide) (c_addT hi f7 f9 f10 f11) (fun r h1 e1 => ?_)
        obtain ⟨e0, g7, g9, g10, g11, sm1⟩ := e1
        cases e0
        refine x_iload dX10_scanRun_138 0 rfl ?_
        exact x_iret dX10_scanRun_140 rfl ⟨rfl, _, g7, g9, g10, g11, sm1, ⟨fun z => by omega, fun _ => ((R2 (fun z => by omega)).1 ⟨by omega, by omega⟩).2⟩⟩
  · refine x_iload_n dX10_scanRun_92 4 rfl ?_
    refine x_bipush (v := 8) dX10_scanRun_93 (by decide) ?_
    refine x_icmp_gtN (tgt := 114) (a := (cnF isLb (tkf tv q) (tkN tn tv q))) (b := 8) (by omega) (by omega) dX10_scanRun_95 (by decide) (fun c_95 => ?_) (fun c_95 => ?_)
    · refine x_aload_n dX10_scanRun_114 5 rfl ?_
      refine x_iload_n dX10_scanRun_115 4 rfl ?_
      refine x_if_neN (tgt := 130) (a := (cnF isLb (tkf tv q) (tkN tn tv q))) (by omega) dX10_scanRun_116 (by decide) (fun c_116 => ?_) (fun c_116 => ?_)
      · refine x_bipush (v := 21) dX10_scanRun_130 (by decide) ?_
        refine x_iload_n dX10_scanRun_132 7 rfl ?_
        refine x_lload dX10_scanRun_133 1 rfl ?_
        have kk : tkK tn tv q = 21 := (R2 (fun z => by omega)).2 (fun z => by omega)
        rw [show (21 : Int32) = nI (tkK tn tv q) by rw [kk]; rfl]
        refine x_callV (rf' := 0) (rl' := 0) [.int (nI (tkK tn tv q)), .int (nI q), .long (nuF (tkf tv q) (tkN tn tv q))] [] dX10_scanRun_135 vX10_78 Y_X10_add f7 (by decide) rfl rfl (Nat.le_of_ble_eq_true rfl) (Nat.le_of_ble_eq_true rfl) (by decide) (by decide) (c_addT hi f7 f9 f10 f11) (fun r h1 e1 => ?_)
        obtain ⟨e0, g7, g9, g10, g11, sm1⟩ := e1
        cases e0
        refine x_iload dX10_scanRun_138 0 rfl ?_
        exact x_iret dX10_scanRun_140 rfl ⟨rfl, _, g7, g9, g10, g11, sm1, ⟨fun z => by omega, fun z => by omega⟩⟩
      · refine x_iload dX10_scanRun_119 3 rfl ?_
        refine x_iconst (v := 5) dX10_scanRun_121 (by decide) ?_
        refine x_icmp_gtN (tgt := 130) (a := (cnF isDb (tkf tv q) (tkN tn tv q))) (b := 5) (by omega) (by omega) dX10_scanRun_122 (by decide) (fun c_122 => ?_) (fun c_122 => ?_)
        · refine x_bipush (v := 21) dX10_scanRun_130 (by decide) ?_
          refine x_iload_n dX10_scanRun_132 7 rfl ?_
          refine x_lload dX10_scanRun_133 1 rfl ?_
          have kk : tkK tn tv q = 21 := (R2 (fun z => by omega)).2 (fun z => by omega)
          rw [show (21 : Int32) = nI (tkK tn tv q) by rw [kk]; rfl]
          refine x_callV (rf' := 0) (rl' := 0) [.int (nI (tkK tn tv q)), .int (nI q), .long (nuF (tkf tv q) (tkN tn tv q))] [] dX10_scanRun_135 vX10_78 Y_X10_add f7 (by decide) rfl rfl (Nat.le_of_ble_eq_true rfl) (Nat.le_of_ble_eq_true rfl) (by decide) (by decide) (c_addT hi f7 f9 f10 f11) (fun r h1 e1 => ?_)
          obtain ⟨e0, g7, g9, g10, g11, sm1⟩ := e1
          cases e0
          refine x_iload dX10_scanRun_138 0 rfl ?_
          exact x_iret dX10_scanRun_140 rfl ⟨rfl, _, g7, g9, g10, g11, sm1, ⟨fun z => by omega, fun z => by omega⟩⟩
        · refine x_bipush (v := 18) dX10_scanRun_125 (by decide) ?_
          refine x_goto (tgt := 132) dX10_scanRun_127 (by decide) ?_
          refine x_iload_n dX10_scanRun_132 7 rfl ?_
          refine x_lload dX10_scanRun_133 1 rfl ?_
          have kk : tkK tn tv q = 18 := ((R2 (fun z => by omega)).1 ⟨by omega, by omega⟩).1
          rw [show (18 : Int32) = nI (tkK tn tv q) by rw [kk]; rfl]
          refine x_callV (rf' := 0) (rl' := 0) [.int (nI (tkK tn tv q)), .int (nI q), .long (nuF (tkf tv q) (tkN tn tv q))] [] dX10_scanRun_135 vX10_78 Y_X10_add f7 (by decide) rfl rfl (Nat.le_of_ble_eq_true rfl) (Nat.le_of_ble_eq_true rfl) (by decide) (by decide) (c_addT hi f7 f9 f10 f11) (fun r h1 e1 => ?_)
          obtain ⟨e0, g7, g9, g10, g11, sm1⟩ := e1
          cases e0
          refine x_iload dX10_scanRun_138 0 rfl ?_
          exact x_iret dX10_scanRun_140 rfl ⟨rfl, _, g7, g9, g10, g11, sm1, ⟨fun z => by omega, fun _ => ((R2 (fun z => by omega)).1 ⟨by omega, by omega⟩).2⟩⟩
    · refine x_aload_n dX10_scanRun_98 5 rfl ?_
      refine x_aload_n dX10_scanRun_99 5 rfl ?_
      refine x_lload dX10_scanRun_100 2 rfl ?_
      refine x_callV (rf' := 0) (rl' := 0) [.long (c32F (tkf tv q) (tkN tn tv q))] [.ref 7] dX10_scanRun_102 vX10_86 Y_X10_kindOfWord f7 (by decide) rfl rfl (Nat.le_of_ble_eq_true rfl) (Nat.le_of_ble_eq_true rfl) (by decide) (by decide) (c_kindOfWord hr f7 f8) (fun _ _ e1 => ?_)
      cases e1
      obtain ⟨u1, u2, u3, u4⟩ := R1 ⟨by omega, by omega⟩
      rw [u3, kW_of32 u4, ← u1]
      refine x_iload_n dX10_scanRun_105 7 rfl ?_
      refine x_lload dX10_scanRun_106 2 rfl ?_
      refine x_callV (rf' := 0) (rl' := 0) [.int (nI (tkK tn tv q)), .int (nI q), .long (lN (tkC tn tv q))] [] dX10_scanRun_108 vX10_78 Y_X10_add f7 (by decide) rfl rfl (Nat.le_of_ble_eq_true rfl) (Nat.le_of_ble_eq_true rfl) (by decide) (by decide) (c_addT hi f7 f9 f10 f11) (fun r h1 e1 => ?_)
      obtain ⟨e0, g7, g9, g10, g11, sm1⟩ := e1
      cases e0
      refine x_goto (tgt := 138) dX10_scanRun_111 (by decide) ?_
      refine x_iload dX10_scanRun_138 0 rfl ?_
      exact x_iret dX10_scanRun_140 rfl ⟨rfl, _, g7, g9, g10, g11, sm1, ⟨fun _ => rfl, fun z => by omega⟩⟩

/-- the first i rows of TOKENS -/
def TkRw (tn : Nat) (tv : Nat → Nat) (i : Nat) (z9 z10 : Nat → Int32) (z11 : Nat → Int64) : Prop := ∀ j, j < i → tkP tn tv j < tkM tn ∧ z9 j = nI (tkK tn tv (tkP tn tv j)) ∧ z10 j = nI (tkP tn tv j) ∧ (tkK tn tv (tkP tn tv j) ≤ 17 → z11 j = lN (tkC tn tv (tkP tn tv j))) ∧ (tkK tn tv (tkP tn tv j) = 18 → z11 j = lN (tkV tn tv (tkP tn tv j)))
theorem TkRw.add {tn i : Nat} {tv : Nat → Nat} {z9 z10 : Nat → Int32} {z11 : Nat → Int64} {v : Int64} (h : TkRw tn tv i z9 z10 z11) (h1 : tkP tn tv i < tkM tn) (h2 : tkK tn tv (tkP tn tv i) ≤ 17 → v = lN (tkC tn tv (tkP tn tv i))) (h3 : tkK tn tv (tkP tn tv i) = 18 → v = lN (tkV tn tv (tkP tn tv i))) : TkRw tn tv (i + 1) (upd z9 i (nI (tkK tn tv (tkP tn tv i)))) (upd z10 i (nI (tkP tn tv i))) (vp_updL z11 i v) := by
  intro j hj
  by_cases e : j = i
  · subst e
    rw [pk_us, pk_us, pk_uLs]
    exact ⟨h1, rfl, rfl, h2, h3⟩
  · rw [pk_un e, pk_un e, pk_uLn e]
    exact h j (by omega)
/-- the TOKENS of a text, N of them -/
def TkR (h : List PE) (tn : Nat) (tv : Nat → Nat) (N : Nat) : Prop := ∃ (z9 z10 : Nat → Int32) (z11 : Nat → Int64), h[7]? = some (cO 10 [.ref 8, .ref 9, .ref 10, .ref 11, .int (nI N), .int (nI (tkM tn))]) ∧ h[9]? = some (cI 600 z9) ∧ h[10]? = some (cI 600 z10) ∧ h[11]? = some (cJ 600 z11) ∧ TkRw tn tv N z9 z10 z11 ∧ tkM tn ≤ tkP tn tv N

theorem mx_run {a b : Nat} (h : a ≤ b) (hb : b < 2 ^ 30) : (if nI a < nI b then nI b else nI a) = nI b := by
  by_cases e : nI a < nI b
  · rw [if_pos e]
  · rw [if_neg e]
    by_cases q : a = b
    · rw [q]
    · exact absurd ((nI_ltI (a := a) (b := b) (by omega) (by omega)).mpr (by omega)) e

set_option maxRecDepth 100000 in
set_option maxHeartbeats 4000000 in
theorem l_scan {G : GT} {h0 : List PE} {tn : Nat} {tv : Nat → Nat} {zr : Nat → Int64} (hT : TpR h0 tn tv) (htn : tn ≤ 640) (hv : ∀ j, j < tn → tv j < 256) (hr : ∀ i, i < 17 → zr i = lN (k32 i)) (f8 : h0[8]? = some (cJ 17 zr)) : ∀ (m p i : Nat) (h : List PE) (z9 z10 : Nat → Int32) (z11 : Nat → Int64), tkM tn - p ≤ m → Sm [7, 9, 10, 11] h0 h → h[7]? = some (cO 10 [.ref 8, .ref 9, .ref 10, .ref 11, .int (nI i), .int (nI (tkM tn))]) → h[9]? = some (cI 600 z9) → h[10]? = some (cI 600 z10) → h[11]? = some (cJ 600 z11) → TkRw tn tv i z9 z10 z11 → tkP tn tv i = tkS tn tv p → p ≤ tn → X (NF G) G mX10_scan 2 54 21 [(2, .int (nI p)), (0, .ref 7), (1, .ref 4)] [] h (fun o => o.1 = none ∧ Sm [7, 9, 10, 11] h0 o.2 ∧ ∃ N, TkR o.2 tn tv N) := by
  have hM := tkM_le tn
  intro m
  induction m with
  | zero =>
    intro p i h z9 z10 z11 hm sm f7 f9 f10 f11 hR hp hpt
    refine x_iload_n dX10_scan_21 0 rfl ?_
    refine x_aload_n dX10_scan_22 1 rfl ?_
    refine x_get (v := .int (nI (tkM tn))) dX10_scan_23 fX10_27 f7 (by decide) rfl ?_
    refine x_icmp_geN (tgt := 88) (a := p) (b := (tkM tn)) (by omega) (by omega) dX10_scan_26 (by decide) (fun c_26 => ?_) (fun c_26 => absurd (by omega) c_26)
    exact x_vret dX10_scan_88 rfl ⟨rfl, sm, i, z9, z10, z11, f7, f9, f10, f11, hR, by rw [hp]; have := (tkS_le (tv := tv) hpt).1; omega⟩
  | succ m ih =>
    intro p i h z9 z10 z11 hm sm f7 f9 f10 f11 hR hp hpt
    have hT1 := hT.kept (fun j hj => sm.2.2 j (by revert j; decide))
    obtain ⟨tb, f4, f5, e5⟩ := id hT1
    have g8 := sm.at f8 (by decide)
    by_cases hE : tkM tn ≤ p
    · refine x_iload_n dX10_scan_21 0 rfl ?_
      refine x_aload_n dX10_scan_22 1 rfl ?_
      refine x_get (v := .int (nI (tkM tn))) dX10_scan_23 fX10_27 f7 (by decide) rfl ?_
      refine x_icmp_geN (tgt := 88) (a := p) (b := (tkM tn)) (by omega) (by omega) dX10_scan_26 (by decide) (fun c_26 => ?_) (fun c_26 => absurd hE c_26)
      exact x_vret dX10_scan_88 rfl ⟨rfl, sm, i, z9, z10, z11, f7, f9, f10, f11, hR, by rw [hp]; have := (tkS_le (tv := tv) hpt).1; omega⟩
    · have hpv := hv p (by omega)
      by_cases hA : isAb (tv p) = true
      · have eP : tkP tn tv i = p := hp.trans (tkS_n (isAb_nb hA))
        have hi : i < 600 := by have := (tkP_le (tv := tv) i (fun j hj => (hR j hj).1)).1; omega
        have nn := tkN_spec (show p < tn by omega) hA
        have hx : tkP tn tv (i + 1) = tkS tn tv (p + tkN tn tv p) := by show tkS tn tv (tkE tn tv (tkP tn tv i)) = _; rw [eP]; unfold tkE; rw [if_pos hA]
        refine x_iload_n dX10_scan_21 0 rfl ?_
        refine x_aload_n dX10_scan_22 1 rfl ?_
        refine x_get (v := .int (nI (tkM tn))) dX10_scan_23 fX10_27 f7 (by decide) rfl ?_
        refine x_icmp_geN (tgt := 88) (a := p) (b := (tkM tn)) (by omega) (by omega) dX10_scan_26 (by decide) (fun c_26 => absurd c_26 hE) (fun c_26 => ?_)
        refine x_aload_n dX10_scan_29 2 rfl ?_
        refine x_iload_n dX10_scan_30 0 rfl ?_
        refine x_callV (rf' := 0) (rl' := 0) [.int (nI p)] [] dX10_scan_31 vX10_54 Y_X8_byteAt f4 (by decide) rfl rfl (Nat.le_of_ble_eq_true rfl) (Nat.le_of_ble_eq_true rfl) (by decide) (by decide) (c_byteL hT1 htn (by omega)) (fun _ _ e1 => ?_)
        cases e1
        refine x_istore_n (lv2 := [(3, .int (nI (tv p))), (2, .int (nI p)), (0, .ref 7), (1, .ref 4)]) dX10_scan_34 (by decide) rfl ?_
        refine x_iload_n dX10_scan_35 0 rfl ?_
        refine x_callS (rf' := 0) (rl' := 0) [.int (nI (tv p))] [] dX10_scan_36 vX10_58 Y_X10_isLetter rfl rfl (Nat.le_of_ble_eq_true rfl) (Nat.le_of_ble_eq_true rfl) (by decide) (by decide) (c_isLetterT hpv) (fun _ _ e1 => ?_)
        cases e1
        by_cases hl : isLb (tv p) = true
        · rw [if_pos hl]
          refine x_if_ne (tgt := 49) dX10_scan_39 (by decide) (fun c_39 => ?_) (fun c_39 => absurd c_39 (by decide))
          refine x_iload_n dX10_scan_49 1 rfl ?_
          refine x_iconst (v := 1) dX10_scan_50 (by decide) ?_
          refine x_iaddN (a := p) (b := 1) dX10_scan_51 ?_
          refine x_aload_n dX10_scan_52 2 rfl ?_
          refine x_aload_n dX10_scan_53 3 rfl ?_
          refine x_iload_n dX10_scan_54 1 rfl ?_
          refine x_callV (rf' := 1) (rl' := 24) [.ref 4, .int (nI p)] [.int (nI (p + 1))] dX10_scan_55 vX10_65 Y_X10_scanRun f7 (by decide) rfl rfl (Nat.le_of_ble_eq_true rfl) (Nat.le_of_ble_eq_true rfl) (by decide) (by decide) (c_scanRun hT1 htn hv (show p < tn by omega) hA hi hr f7 g8 f9 f10 f11) (fun r h1 e1 => ?_)
          obtain ⟨e0, v, g7, g9, g10, g11, sm1, v1, v2⟩ := e1
          cases e0
          refine x_callS (rf' := 0) (rl' := 0) [.int (nI (p + 1)), .int (nI (p + tkN tn tv p))] [] dX10_scan_58 vX10_69 Y_J9_max_7cf53 rfl rfl (Nat.le_of_ble_eq_true rfl) (Nat.le_of_ble_eq_true rfl) (by decide) (by decide) c_max (fun _ _ e9 => ?_)
          cases e9
          rw [mx_run (a := p + 1) (b := p + tkN tn tv p) (by omega) (by omega)]
          refine x_istore_n (lv2 := [(2, .int (nI (p + tkN tn tv p))), (3, .int (nI (tv p))), (0, .ref 7), (1, .ref 4)]) dX10_scan_61 (by decide) rfl ?_
          refine x_goto (tgt := 85) dX10_scan_62 (by decide) ?_
          refine x_goto (tgt := 21) dX10_scan_85 (by decide) ?_
          refine x_perm [0, 2, 3] rfl ?_
          have hR2 := hR.add (v := v) (by rw [eP]; omega) (by rw [eP]; exact v1) (by rw [eP]; exact v2)
          rw [eP] at hR2
          exact ih (p + tkN tn tv p) (i + 1) h1 _ _ _ (by omega) (sm.tr sm1) g7 g9 g10 g11 hR2 hx (by omega)
        · rw [if_neg hl]
          refine x_if_ne (tgt := 49) dX10_scan_39 (by decide) (fun c_39 => absurd (by decide) c_39) (fun c_39 => ?_)
          refine x_iload_n dX10_scan_42 0 rfl ?_
          refine x_callS (rf' := 0) (rl' := 0) [.int (nI (tv p))] [] dX10_scan_43 vX10_62 Y_X10_isDigit rfl rfl (Nat.le_of_ble_eq_true rfl) (Nat.le_of_ble_eq_true rfl) (by decide) (by decide) (c_isDigitT hpv) (fun _ _ e1 => ?_)
          cases e1
          by_cases hd : isDb (tv p) = true
          · rw [if_pos hd]
            refine x_if_eq (tgt := 65) dX10_scan_46 (by decide) (fun c_46 => absurd c_46 (by decide)) (fun c_46 => ?_)
            refine x_iload_n dX10_scan_49 1 rfl ?_
            refine x_iconst (v := 1) dX10_scan_50 (by decide) ?_
            refine x_iaddN (a := p) (b := 1) dX10_scan_51 ?_
            refine x_aload_n dX10_scan_52 2 rfl ?_
            refine x_aload_n dX10_scan_53 3 rfl ?_
            refine x_iload_n dX10_scan_54 1 rfl ?_
            refine x_callV (rf' := 1) (rl' := 24) [.ref 4, .int (nI p)] [.int (nI (p + 1))] dX10_scan_55 vX10_65 Y_X10_scanRun f7 (by decide) rfl rfl (Nat.le_of_ble_eq_true rfl) (Nat.le_of_ble_eq_true rfl) (by decide) (by decide) (c_scanRun hT1 htn hv (show p < tn by omega) hA hi hr f7 g8 f9 f10 f11) (fun r h1 e1 => ?_)
            obtain ⟨e0, v, g7, g9, g10, g11, sm1, v1, v2⟩ := e1
            cases e0
            refine x_callS (rf' := 0) (rl' := 0) [.int (nI (p + 1)), .int (nI (p + tkN tn tv p))] [] dX10_scan_58 vX10_69 Y_J9_max_7cf53 rfl rfl (Nat.le_of_ble_eq_true rfl) (Nat.le_of_ble_eq_true rfl) (by decide) (by decide) c_max (fun _ _ e9 => ?_)
            cases e9
            rw [mx_run (a := p + 1) (b := p + tkN tn tv p) (by omega) (by omega)]
            refine x_istore_n (lv2 := [(2, .int (nI (p + tkN tn tv p))), (3, .int (nI (tv p))), (0, .ref 7), (1, .ref 4)]) dX10_scan_61 (by decide) rfl ?_
            refine x_goto (tgt := 85) dX10_scan_62 (by decide) ?_
            refine x_goto (tgt := 21) dX10_scan_85 (by decide) ?_
            refine x_perm [0, 2, 3] rfl ?_
            have hR2 := hR.add (v := v) (by rw [eP]; omega) (by rw [eP]; exact v1) (by rw [eP]; exact v2)
            rw [eP] at hR2
            exact ih (p + tkN tn tv p) (i + 1) h1 _ _ _ (by omega) (sm.tr sm1) g7 g9 g10 g11 hR2 hx (by omega)
          · rw [if_neg hd]
            exact absurd (isAb_iff.mp hA) (by have := mt isLb_iff.mpr hl; have := mt isDb_iff.mpr hd; omega)
      · have hl : ¬ isLb (tv p) = true := fun z => hA (by unfold isAb; rw [z]; rfl)
        have hd : ¬ isDb (tv p) = true := fun z => hA (by unfold isAb; rw [z]; exact Bool.or_true _)
        by_cases hB : isBb (tv p) = true
        · refine x_iload_n dX10_scan_21 0 rfl ?_
          refine x_aload_n dX10_scan_22 1 rfl ?_
          refine x_get (v := .int (nI (tkM tn))) dX10_scan_23 fX10_27 f7 (by decide) rfl ?_
          refine x_icmp_geN (tgt := 88) (a := p) (b := (tkM tn)) (by omega) (by omega) dX10_scan_26 (by decide) (fun c_26 => absurd c_26 hE) (fun c_26 => ?_)
          refine x_aload_n dX10_scan_29 2 rfl ?_
          refine x_iload_n dX10_scan_30 0 rfl ?_
          refine x_callV (rf' := 0) (rl' := 0) [.int (nI p)] [] dX10_scan_31 vX10_54 Y_X8_byteAt f4 (by decide) rfl rfl (Nat.le_of_ble_eq_true rfl) (Nat.le_of_ble_eq_true rfl) (by decide) (by decide) (c_byteL hT1 htn (by omega)) (fun _ _ e1 => ?_)
          cases e1
          refine x_istore_n (lv2 := [(3, .int (nI (tv p))), (2, .int (nI p)), (0, .ref 7), (1, .ref 4)]) dX10_scan_34 (by decide) rfl ?_
          refine x_iload_n dX10_scan_35 0 rfl ?_
          refine x_callS (rf' := 0) (rl' := 0) [.int (nI (tv p))] [] dX10_scan_36 vX10_58 Y_X10_isLetter rfl rfl (Nat.le_of_ble_eq_true rfl) (Nat.le_of_ble_eq_true rfl) (by decide) (by decide) (c_isLetterT hpv) (fun _ _ e1 => ?_)
          cases e1
          rw [if_neg hl]
          refine x_if_ne (tgt := 49) dX10_scan_39 (by decide) (fun c_39 => absurd (by decide) c_39) (fun c_39 => ?_)
          refine x_iload_n dX10_scan_42 0 rfl ?_
          refine x_callS (rf' := 0) (rl' := 0) [.int (nI (tv p))] [] dX10_scan_43 vX10_62 Y_X10_isDigit rfl rfl (Nat.le_of_ble_eq_true rfl) (Nat.le_of_ble_eq_true rfl) (by decide) (by decide) (c_isDigitT hpv) (fun _ _ e1 => ?_)
          cases e1
          rw [if_neg hd]
          refine x_if_eq (tgt := 65) dX10_scan_46 (by decide) (fun c_46 => ?_) (fun c_46 => absurd (by decide) c_46)
          refine x_iload_n dX10_scan_65 0 rfl ?_
          refine x_callS (rf' := 0) (rl' := 0) [.int (nI (tv p))] [] dX10_scan_66 vX10_72 Y_X10_isBlank rfl rfl (Nat.le_of_ble_eq_true rfl) (Nat.le_of_ble_eq_true rfl) (by decide) (by decide) (c_isBlank hpv) (fun _ _ e1 => ?_)
          cases e1
          rw [if_pos hB]
          refine x_if_ne (tgt := 82) dX10_scan_69 (by decide) (fun c_69 => ?_) (fun c_69 => absurd c_69 (by decide))
          refine x_iincN (lv2 := [(2, .int (nI (p + 1))), (3, .int (nI (tv p))), (0, .ref 7), (1, .ref 4)]) dX10_scan_82 1 rfl (by decide) rfl ?_
          refine x_goto (tgt := 21) dX10_scan_85 (by decide) ?_
          refine x_perm [0, 2, 3] rfl ?_
          exact ih (p + 1) i h z9 z10 z11 (by omega) sm f7 f9 f10 f11 hR (hp.trans (tkS_b (by omega) hB)) (by omega)
        · have eP : tkP tn tv i = p := hp.trans (tkS_n (bfalse hB))
          have hi : i < 600 := by have := (tkP_le (tv := tv) i (fun j hj => (hR j hj).1)).1; omega
          have hx : tkP tn tv (i + 1) = tkS tn tv (p + 1) := by show tkS tn tv (tkE tn tv (tkP tn tv i)) = _; rw [eP]; unfold tkE; rw [if_neg hA]
          have hk : sgK (tv p) = tkK tn tv p := by unfold sgK tkK; rw [if_neg hA]
          have hk2 : 19 ≤ tkK tn tv p := by rw [← hk]; unfold sgK; split <;> (try split) <;> omega
          refine x_iload_n dX10_scan_21 0 rfl ?_
          refine x_aload_n dX10_scan_22 1 rfl ?_
          refine x_get (v := .int (nI (tkM tn))) dX10_scan_23 fX10_27 f7 (by decide) rfl ?_
          refine x_icmp_geN (tgt := 88) (a := p) (b := (tkM tn)) (by omega) (by omega) dX10_scan_26 (by decide) (fun c_26 => absurd c_26 hE) (fun c_26 => ?_)
          refine x_aload_n dX10_scan_29 2 rfl ?_
          refine x_iload_n dX10_scan_30 0 rfl ?_
          refine x_callV (rf' := 0) (rl' := 0) [.int (nI p)] [] dX10_scan_31 vX10_54 Y_X8_byteAt f4 (by decide) rfl rfl (Nat.le_of_ble_eq_true rfl) (Nat.le_of_ble_eq_true rfl) (by decide) (by decide) (c_byteL hT1 htn (by omega)) (fun _ _ e1 => ?_)
          cases e1
          refine x_istore_n (lv2 := [(3, .int (nI (tv p))), (2, .int (nI p)), (0, .ref 7), (1, .ref 4)]) dX10_scan_34 (by decide) rfl ?_
          refine x_iload_n dX10_scan_35 0 rfl ?_
          refine x_callS (rf' := 0) (rl' := 0) [.int (nI (tv p))] [] dX10_scan_36 vX10_58 Y_X10_isLetter rfl rfl (Nat.le_of_ble_eq_true rfl) (Nat.le_of_ble_eq_true rfl) (by decide) (by decide) (c_isLetterT hpv) (fun _ _ e1 => ?_)
          cases e1
          rw [if_neg hl]
          refine x_if_ne (tgt := 49) dX10_scan_39 (by decide) (fun c_39 => absurd (by decide) c_39) (fun c_39 => ?_)
          refine x_iload_n dX10_scan_42 0 rfl ?_
          refine x_callS (rf' := 0) (rl' := 0) [.int (nI (tv p))] [] dX10_scan_43 vX10_62 Y_X10_isDigit rfl rfl (Nat.le_of_ble_eq_true rfl) (Nat.le_of_ble_eq_true rfl) (by decide) (by decide) (c_isDigitT hpv) (fun _ _ e1 => ?_)
          cases e1
          rw [if_neg hd]
          refine x_if_eq (tgt := 65) dX10_scan_46 (by decide) (fun c_46 => ?_) (fun c_46 => absurd (by decide) c_46)
          refine x_iload_n dX10_scan_65 0 rfl ?_
          refine x_callS (rf' := 0) (rl' := 0) [.int (nI (tv p))] [] dX10_scan_66 vX10_72 Y_X10_isBlank rfl rfl (Nat.le_of_ble_eq_true rfl) (Nat.le_of_ble_eq_true rfl) (by decide) (by decide) (c_isBlank hpv) (fun _ _ e1 => ?_)
          cases e1
          rw [if_neg hB]
          refine x_if_ne (tgt := 82) dX10_scan_69 (by decide) (fun c_69 => absurd (by decide) c_69) (fun c_69 => ?_)
          refine x_aload_n dX10_scan_72 2 rfl ?_
          refine x_iload_n dX10_scan_73 0 rfl ?_
          refine x_callS (rf' := 0) (rl' := 0) [.int (nI (tv p))] [.ref 7] dX10_scan_74 vX10_75 Y_X10_kindOfSign rfl rfl (Nat.le_of_ble_eq_true rfl) (Nat.le_of_ble_eq_true rfl) (by decide) (by decide) (c_kindOfSign hpv) (fun _ _ e1 => ?_)
          cases e1
          rw [hk]
          refine x_iload_n dX10_scan_77 1 rfl ?_
          refine x_lconst (v := 0) dX10_scan_78 (by decide) ?_
          refine x_callV (rf' := 0) (rl' := 0) [.int (nI (tkK tn tv p)), .int (nI p), .long 0] [] dX10_scan_79 vX10_78 Y_X10_add f7 (by decide) rfl rfl (Nat.le_of_ble_eq_true rfl) (Nat.le_of_ble_eq_true rfl) (by decide) (by decide) (c_addT hi f7 f9 f10 f11) (fun r h1 e1 => ?_)
          obtain ⟨e0, g7, g9, g10, g11, sm1⟩ := e1
          cases e0
          refine x_iincN (lv2 := [(2, .int (nI (p + 1))), (3, .int (nI (tv p))), (0, .ref 7), (1, .ref 4)]) dX10_scan_82 1 rfl (by decide) rfl ?_
          refine x_goto (tgt := 21) dX10_scan_85 (by decide) ?_
          refine x_perm [0, 2, 3] rfl ?_
          have hR2 := hR.add (v := 0) (by rw [eP]; omega) (by rw [eP]; intro z; omega) (by rw [eP]; intro z; omega)
          rw [eP] at hR2
          exact ih (p + 1) (i + 1) h1 _ _ _ (by omega) (sm.tr sm1) g7 g9 g10 g11 hR2 hx (by omega)

theorem min600 (tn : Nat) (h : tn ≤ 640) : (if (600 : Int32) < nI tn then 600 else nI tn) = nI (tkM tn) := by
  unfold tkM
  by_cases e : tn ≤ 600
  · rw [if_pos e, if_neg (show ¬ (600 : Int32) < nI tn from fun q => absurd ((nI_ltI (a := 600) (b := tn) (by decide) (by omega)).mp q) (by omega))]
  · rw [if_neg e, if_pos (show (600 : Int32) < nI tn from (nI_ltI (a := 600) (b := tn) (by decide) (by omega)).mpr (by omega))]; rfl

set_option maxRecDepth 100000 in
set_option maxHeartbeats 4000000 in
theorem c_scan {G : GT} {h0 : List PE} {tn : Nat} {tv : Nat → Nat} {zr : Nat → Int64} (hT : TpR h0 tn tv) (htn : tn ≤ 640) (hv : ∀ j, j < tn → tv j < 256) (hr : ∀ i, i < 17 → zr i = lN (k32 i)) (f8 : h0[8]? = some (cJ 17 zr)) {ln ep : Int32} {z9 z10 : Nat → Int32} {z11 : Nat → Int64} (f7 : h0[7]? = some (cO 10 [.ref 8, .ref 9, .ref 10, .ref 11, .int ln, .int ep])) (f9 : h0[9]? = some (cI 600 z9)) (f10 : h0[10]? = some (cI 600 z10)) (f11 : h0[11]? = some (cJ 600 z11)) : CT G mX10_scan 2 54 [.ref 7, .ref 4] h0 (fun o => o.1 = none ∧ Sm [7, 9, 10, 11] h0 o.2 ∧ ∃ N, TkR o.2 tn tv N) := by
  obtain ⟨tb, f4, f5, e5⟩ := id hT
  have sm0 : Sm [7, 9, 10, 11] h0 h0 := Sm.rf
  show X (NF G) G mX10_scan 2 54 0 [(0, .ref 7), (1, .ref 4)] [] h0 _
  refine x_aload_n dX10_scan_0 0 rfl ?_
  refine x_iconst (v := 0) dX10_scan_1 (by decide) ?_
  refine x_put (fs2 := [.ref 8, .ref 9, .ref 10, .ref 11, .int 0, .int ep]) dX10_scan_2 fX10_23 (Or.inl rfl) f7 (by decide) rfl rfl (Nat.le_of_ble_eq_true rfl) rfl (fun h101 a102 e103 l104 s105 => ?_)
  have f106 := (e103 4 (by decide)).trans f4
  have f107 := (e103 9 (by decide)).trans f9
  have f108 := (e103 10 (by decide)).trans f10
  have f109 := (e103 11 (by decide)).trans f11
  have sm110 := Sm.put sm0 e103 l104 s105 (by decide)
  refine x_aload_n dX10_scan_5 0 rfl ?_
  refine x_aload_n dX10_scan_6 1 rfl ?_
  refine x_get (v := .int (nI tn)) dX10_scan_7 fX10_45 f106 (by decide) rfl ?_
  refine x_sipush (v := 600) dX10_scan_10 (by decide) ?_
  refine x_callS (rf' := 0) (rl' := 0) [.int (nI tn), .int 600] [.ref 7] dX10_scan_13 vX10_48 Y_J9_min_7cf53 rfl rfl (Nat.le_of_ble_eq_true rfl) (Nat.le_of_ble_eq_true rfl) (by decide) (by decide) c_min (fun _ _ e9 => ?_)
  cases e9
  rw [min600 tn htn]
  refine x_put (fs2 := [.ref 8, .ref 9, .ref 10, .ref 11, .int 0, .int (nI (tkM tn))]) dX10_scan_16 fX10_27 (Or.inl rfl) a102 (by decide) rfl rfl (Nat.le_of_ble_eq_true rfl) rfl (fun h111 a112 e113 l114 s115 => ?_)
  have f116 := (e113 4 (by decide)).trans f106
  have f117 := (e113 9 (by decide)).trans f107
  have f118 := (e113 10 (by decide)).trans f108
  have f119 := (e113 11 (by decide)).trans f109
  have sm120 := Sm.put sm110 e113 l114 s115 (by decide)
  refine x_iconst (v := 0) dX10_scan_19 (by decide) ?_
  refine x_istore_n (lv2 := [(2, .int 0), (0, .ref 7), (1, .ref 4)]) dX10_scan_20 (by decide) rfl ?_
  refine x_perm (lv2 := [(2, .int (nI 0)), (0, .ref 7), (1, .ref 4)]) [0, 1, 2] rfl ?_
  exact l_scan hT htn hv hr f8 (tkM tn) 0 0 h111 z9 z10 z11 (by omega) sm120 a112 f117 f118 f119 (fun j hj => absurd hj (Nat.not_lt_zero j)) rfl (by omega)

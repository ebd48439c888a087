set_option maxRecDepth 100000 in
set_option maxHeartbeats 4000000 in
theorem c_max {G : GT} {h : List PE} {x y : Int32} : CT G mJ9_max_7cf53 0 0 [.int x, .int y] h (fun o => o = (some (.int (if x < y then y else x)), h)) := by
  show X (NF G) G mJ9_max_7cf53 0 0 0 [(0, .int x), (1, .int y)] [] h _
  refine x_iload_n dJ9_max_7cf53_0 0 rfl ?_
  refine x_iload_n dJ9_max_7cf53_1 1 rfl ?_
  refine x_icmp_lt (tgt := 9) dJ9_max_7cf53_2 (by decide) (fun c_2 => ?_) (fun c_2 => ?_)
  · refine x_iload_n dJ9_max_7cf53_9 1 rfl ?_
    exact x_iret dJ9_max_7cf53_10 rfl (by simp [c_2])
  · refine x_iload_n dJ9_max_7cf53_5 0 rfl ?_
    refine x_goto (tgt := 10) dJ9_max_7cf53_6 (by decide) ?_
    exact x_iret dJ9_max_7cf53_10 rfl (by simp [c_2])

set_option maxRecDepth 100000 in
set_option maxHeartbeats 4000000 in
theorem c_min {G : GT} {h : List PE} {x y : Int32} : CT G mJ9_min_7cf53 0 0 [.int x, .int y] h (fun o => o = (some (.int (if y < x then y else x)), h)) := by
  show X (NF G) G mJ9_min_7cf53 0 0 0 [(0, .int x), (1, .int y)] [] h _
  refine x_iload_n dJ9_min_7cf53_0 0 rfl ?_
  refine x_iload_n dJ9_min_7cf53_1 1 rfl ?_
  refine x_icmp_gt (tgt := 9) dJ9_min_7cf53_2 (by decide) (fun c_2 => ?_) (fun c_2 => ?_)
  · refine x_iload_n dJ9_min_7cf53_9 1 rfl ?_
    exact x_iret dJ9_min_7cf53_10 rfl (by simp [c_2])
  · refine x_iload_n dJ9_min_7cf53_5 0 rfl ?_
    refine x_goto (tgt := 10) dJ9_min_7cf53_6 (by decide) ?_
    exact x_iret dJ9_min_7cf53_10 rfl (by simp [c_2])

set_option maxRecDepth 100000 in
set_option maxHeartbeats 4000000 in
theorem c_minL {G : GT} {h : List PE} {x y : Int64} : CT G mJ9_min_f86c9 0 0 [.long x, .long y] h (fun o => o = (some (.long (if y < x then y else x)), h)) := by
  show X (NF G) G mJ9_min_f86c9 0 0 0 [(0, .long x), (2, .long y)] [] h _
  refine x_lload_n dJ9_min_f86c9_0 0 rfl ?_
  refine x_lload_n dJ9_min_f86c9_1 1 rfl ?_
  refine x_lif_gt (tgt := 10) dJ9_min_f86c9_2 dJ9_min_f86c9_3 (by decide) (fun c_3 => ?_) (fun c_3 => ?_)
  · refine x_lload_n dJ9_min_f86c9_10 1 rfl ?_
    exact x_lret dJ9_min_f86c9_11 rfl (by simp [c_3])
  · refine x_lload_n dJ9_min_f86c9_6 0 rfl ?_
    refine x_goto (tgt := 11) dJ9_min_f86c9_7 (by decide) ?_
    exact x_lret dJ9_min_f86c9_11 rfl (by simp [c_3])

set_option maxRecDepth 100000 in
set_option maxHeartbeats 4000000 in
theorem c_isSide {G : GT} {h : List PE} {side : Int32} : CT G mX11_isSide 0 0 [.int side] h (fun o => o = (some (.int (if side < 0 ∨ 6 ≤ side then 0 else 1)), h)) := by
  show X (NF G) G mX11_isSide 0 0 0 [(0, .int side)] [] h _
  refine x_iload_n dX11_isSide_0 0 rfl ?_
  refine x_if_lt (tgt := 14) dX11_isSide_1 (by decide) (fun c_1 => ?_) (fun c_1 => ?_)
  · refine x_iconst (v := 0) dX11_isSide_14 (by decide) ?_
    exact x_zret dX11_isSide_15 rfl rfl (by simp [c_1])
  · refine x_iload_n dX11_isSide_4 0 rfl ?_
    refine x_bipush (v := 6) dX11_isSide_5 (by decide) ?_
    refine x_icmp_ge (tgt := 14) dX11_isSide_7 (by decide) (fun c_7 => ?_) (fun c_7 => ?_)
    · refine x_iconst (v := 0) dX11_isSide_14 (by decide) ?_
      exact x_zret dX11_isSide_15 rfl rfl (by simp [c_1, c_7])
    · refine x_iconst (v := 1) dX11_isSide_10 (by decide) ?_
      refine x_goto (tgt := 15) dX11_isSide_11 (by decide) ?_
      exact x_zret dX11_isSide_15 rfl rfl (by simp [c_1, c_7])

set_option maxRecDepth 100000 in
set_option maxHeartbeats 4000000 in
theorem c_isHeight {G : GT} {h : List PE} {side : Int32} : CT G mX11_isHeight 0 0 [.int side] h (fun o => o = (some (.int (if side < 0 ∨ 30000 < side then 0 else 1)), h)) := by
  show X (NF G) G mX11_isHeight 0 0 0 [(0, .int side)] [] h _
  refine x_iload_n dX11_isHeight_0 0 rfl ?_
  refine x_if_lt (tgt := 15) dX11_isHeight_1 (by decide) (fun c_1 => ?_) (fun c_1 => ?_)
  · refine x_iconst (v := 0) dX11_isHeight_15 (by decide) ?_
    exact x_zret dX11_isHeight_16 rfl rfl (by simp [c_1])
  · refine x_iload_n dX11_isHeight_4 0 rfl ?_
    refine x_sipush (v := 30000) dX11_isHeight_5 (by decide) ?_
    refine x_icmp_gt (tgt := 15) dX11_isHeight_8 (by decide) (fun c_8 => ?_) (fun c_8 => ?_)
    · refine x_iconst (v := 0) dX11_isHeight_15 (by decide) ?_
      exact x_zret dX11_isHeight_16 rfl rfl (by simp [c_1, c_8])
    · refine x_iconst (v := 1) dX11_isHeight_11 (by decide) ?_
      refine x_goto (tgt := 16) dX11_isHeight_12 (by decide) ?_
      exact x_zret dX11_isHeight_16 rfl rfl (by simp [c_1, c_8])

set_option maxRecDepth 100000 in
set_option maxHeartbeats 4000000 in
theorem c_isKept {G : GT} {h : List PE} {side : Int32} : CT G mX11_isKept 0 0 [.int side] h (fun o => o = (some (.int (if side < 0 ∨ 200 < side then 0 else 1)), h)) := by
  show X (NF G) G mX11_isKept 0 0 0 [(0, .int side)] [] h _
  refine x_iload_n dX11_isKept_0 0 rfl ?_
  refine x_if_lt (tgt := 15) dX11_isKept_1 (by decide) (fun c_1 => ?_) (fun c_1 => ?_)
  · refine x_iconst (v := 0) dX11_isKept_15 (by decide) ?_
    exact x_zret dX11_isKept_16 rfl rfl (by simp [c_1])
  · refine x_iload_n dX11_isKept_4 0 rfl ?_
    refine x_sipush (v := 200) dX11_isKept_5 (by decide) ?_
    refine x_icmp_gt (tgt := 15) dX11_isKept_8 (by decide) (fun c_8 => ?_) (fun c_8 => ?_)
    · refine x_iconst (v := 0) dX11_isKept_15 (by decide) ?_
      exact x_zret dX11_isKept_16 rfl rfl (by simp [c_1, c_8])
    · refine x_iconst (v := 1) dX11_isKept_11 (by decide) ?_
      refine x_goto (tgt := 16) dX11_isKept_12 (by decide) ?_
      exact x_zret dX11_isKept_16 rfl rfl (by simp [c_1, c_8])

set_option maxRecDepth 100000 in
set_option maxHeartbeats 4000000 in
theorem c_leastPercent {G : GT} {h : List PE} {a p q np : Nat} {ke pr : Int32} {g1 : Nat → Int32} (fa : h[a]? = some (cO 6 [.ref p, .ref q, .int (nI np), .int ke, .int pr])) (fp : h[p]? = some (cI 8 g1)) (ha : 3 ≤ a) (hp : 3 ≤ p) (hnp : np ≤ 8) : CT G mX6_leastPercent 0 0 [.ref a] h (fun o => o = (some (.int (if np = 0 then 0 else g1 (np - 1) + 1)), h)) := by
  show X (NF G) G mX6_leastPercent 0 0 0 [(0, .ref a)] [] h _
  refine x_aload_n dX6_leastPercent_0 0 rfl ?_
  refine x_get (v := .int (nI np)) dX6_leastPercent_1 fX6_18 fa ha rfl ?_
  refine x_iconst (v := 1) dX6_leastPercent_4 (by decide) ?_
  refine x_icmp_ltN (tgt := 17) (a := np) (b := 1) (by omega) (by omega) dX6_leastPercent_5 (by decide) (fun c_5 => ?_) (fun c_5 => ?_)
  · refine x_iconst (v := 0) dX6_leastPercent_17 (by decide) ?_
    refine x_goto (tgt := 34) dX6_leastPercent_18 (by decide) ?_
    exact x_iret dX6_leastPercent_34 rfl (by rw [if_pos (by omega)])
  · refine x_aload_n dX6_leastPercent_8 0 rfl ?_
    refine x_get (v := .int (nI np)) dX6_leastPercent_9 fX6_18 fa ha rfl ?_
    refine x_bipush (v := 8) dX6_leastPercent_12 (by decide) ?_
    refine x_icmp_leN (tgt := 21) (a := np) (b := 8) (by omega) (by omega) dX6_leastPercent_14 (by decide) (fun c_14 => ?_) (fun c_14 => ?_)
    · refine x_aload_n dX6_leastPercent_21 0 rfl ?_
      refine x_get (v := .ref p) dX6_leastPercent_22 fX6_11 fa ha rfl ?_
      refine x_aload_n dX6_leastPercent_25 0 rfl ?_
      refine x_get (v := .int (nI np)) dX6_leastPercent_26 fX6_18 fa ha rfl ?_
      refine x_iconst (v := 1) dX6_leastPercent_29 (by decide) ?_
      refine x_isubN (a := np) (b := 1) (by omega) dX6_leastPercent_30 ?_
      refine x_ialdN (i := (np - 1)) dX6_leastPercent_31 fp hp (by omega) (by decide) ?_
      refine x_iconst (v := 1) dX6_leastPercent_32 (by decide) ?_
      refine x_iadd dX6_leastPercent_33 ?_
      exact x_iret dX6_leastPercent_34 rfl (by rw [if_neg (by omega)])
    · refine x_iconst (v := 0) dX6_leastPercent_17 (by decide) ?_
      refine x_goto (tgt := 34) dX6_leastPercent_18 (by decide) ?_
      exact x_iret dX6_leastPercent_34 rfl (by rw [if_pos (by omega)])

set_option maxRecDepth 100000 in
set_option maxHeartbeats 4000000 in
theorem c_lastPercent {G : GT} {h : List PE} {a p q np pl : Nat} {ke pr : Int32} {g1 : Nat → Int32} (fa : h[a]? = some (cO 6 [.ref p, .ref q, .int (nI np), .int ke, .int pr])) (fp : h[p]? = some (cI 8 g1)) (ha : 3 ≤ a) (hp : 3 ≤ p) (hnp : np ≤ 8) (hn1 : 1 ≤ np) (hpl : g1 (np - 1) = nI pl) : CT G mX6_lastPercent 1 20 [.ref a] h (fun o => o = (some (.int (nI pl)), h)) := by
  show X (NF G) G mX6_lastPercent 1 20 0 [(0, .ref a)] [] h _
  refine x_aload_n dX6_lastPercent_0 0 rfl ?_
  refine x_callV (rf' := 0) (rl' := 0) [] [] dX6_lastPercent_1 vX6_28 Y_X6_leastPercent fa ha rfl rfl (Nat.le_of_ble_eq_true rfl) (Nat.le_of_ble_eq_true rfl) (by decide) (by decide) (c_leastPercent fa fp ha hp hnp) (fun _ _ e1 => ?_)
  cases e1
  refine x_iconst (v := 1) dX6_lastPercent_4 (by decide) ?_
  refine x_isub dX6_lastPercent_5 ?_
  exact x_iret dX6_lastPercent_6 rfl (by rw [if_neg (by omega), hpl, nI_1, show nI (pl + 1) - 1 = nI pl from nI_pred pl])

set_option maxRecDepth 100000 in
set_option maxHeartbeats 4000000 in
theorem c_leastPush {G : GT} {h : List PE} {a p q np : Nat} {ke pr : Int32} {g2 : Nat → Int32} (fa : h[a]? = some (cO 6 [.ref p, .ref q, .int (nI np), .int ke, .int pr])) (fq : h[q]? = some (cI 8 g2)) (ha : 3 ≤ a) (hq : 3 ≤ q) (hnp : np ≤ 8) : CT G mX6_leastPush 0 0 [.ref a] h (fun o => o = (some (.int (if np = 0 then 0 else g2 (np - 1))), h)) := by
  show X (NF G) G mX6_leastPush 0 0 0 [(0, .ref a)] [] h _
  refine x_aload_n dX6_leastPush_0 0 rfl ?_
  refine x_get (v := .int (nI np)) dX6_leastPush_1 fX6_18 fa ha rfl ?_
  refine x_iconst (v := 1) dX6_leastPush_4 (by decide) ?_
  refine x_icmp_ltN (tgt := 17) (a := np) (b := 1) (by omega) (by omega) dX6_leastPush_5 (by decide) (fun c_5 => ?_) (fun c_5 => ?_)
  · refine x_iconst (v := 0) dX6_leastPush_17 (by decide) ?_
    refine x_goto (tgt := 32) dX6_leastPush_18 (by decide) ?_
    exact x_iret dX6_leastPush_32 rfl (by rw [if_pos (by omega)])
  · refine x_aload_n dX6_leastPush_8 0 rfl ?_
    refine x_get (v := .int (nI np)) dX6_leastPush_9 fX6_18 fa ha rfl ?_
    refine x_bipush (v := 8) dX6_leastPush_12 (by decide) ?_
    refine x_icmp_leN (tgt := 21) (a := np) (b := 8) (by omega) (by omega) dX6_leastPush_14 (by decide) (fun c_14 => ?_) (fun c_14 => ?_)
    · refine x_aload_n dX6_leastPush_21 0 rfl ?_
      refine x_get (v := .ref q) dX6_leastPush_22 fX6_15 fa ha rfl ?_
      refine x_aload_n dX6_leastPush_25 0 rfl ?_
      refine x_get (v := .int (nI np)) dX6_leastPush_26 fX6_18 fa ha rfl ?_
      refine x_iconst (v := 1) dX6_leastPush_29 (by decide) ?_
      refine x_isubN (a := np) (b := 1) (by omega) dX6_leastPush_30 ?_
      refine x_ialdN (i := (np - 1)) dX6_leastPush_31 fq hq (by omega) (by decide) ?_
      exact x_iret dX6_leastPush_32 rfl (by rw [if_neg (by omega)])
    · refine x_iconst (v := 0) dX6_leastPush_17 (by decide) ?_
      refine x_goto (tgt := 32) dX6_leastPush_18 (by decide) ?_
      exact x_iret dX6_leastPush_32 rfl (by rw [if_pos (by omega)])

set_option maxRecDepth 100000 in
set_option maxHeartbeats 4000000 in
theorem l_pushAt {G : GT} {h : List PE} {a p q : Nat} {ke0 pr0 : Int32} {g1 g2 rec : Nat → Int32} {f np : Nat} {P U : Nat → Nat} {ke pr : Nat} {x : Nat} (fa : h[a]? = some (cO 6 [.ref p, .ref q, .int (nI np), .int ke0, .int pr0])) (fp : h[p]? = some (cI 8 g1)) (fq : h[q]? = some (cI 8 g2)) (ha : 3 ≤ a) (hp : 3 ≤ p) (hq : 3 ≤ q) (WF : WFf rec f np P U ke pr) (hg : ∀ i, i < np → g1 i = rec (f + 3 + i) ∧ g2 i = rec (f + 11 + i)) (hx : x < 2 ^ 31) : ∀ (m i : Nat), np - i = m → 1 ≤ i ∧ i ≤ np ∧ (i = 1 ∨ P (i - 1) < x) → X (NF G) G mX6_pushAt 0 0 8 [(2, .int (nI i)), (0, .ref a), (1, .int (nI x))] [] h (fun o => ∃ r, o = (some (.int r), h) ∧ (x ≤ P (np - 1) → ∃ k, IsSeg P np x k ∧ r = puR rec f k x) ∧ (P (np - 1) < x → r = -1)) := by
  have w2 := WF.2.1
  have w3 := WF.2.2.1
  intro m
  induction m using Nat.strongRecOn with
  | _ m ih =>
    intro i hm ⟨i1, i2, i3⟩
    refine x_iload_n dX6_pushAt_8 0 rfl ?_
    refine x_aload_n dX6_pushAt_9 1 rfl ?_
    refine x_get (v := .int (nI np)) dX6_pushAt_10 fX6_18 fa ha rfl ?_
    refine x_icmp_geN (tgt := 100) (a := i) (b := np) (by omega) (by omega) dX6_pushAt_13 (by decide) (fun c_13 => ?_) (fun c_13 => ?_)
    · refine x_iconst (v := (-1)) dX6_pushAt_100 (by decide) ?_
      exact x_iret dX6_pushAt_101 rfl ⟨_, rfl, fun q => absurd q (by rcases i3 with i3 | i3; omega; rw [show i = np by omega] at i3; omega), fun _ => rfl⟩
    · refine x_iload_n dX6_pushAt_16 0 rfl ?_
      refine x_bipush (v := 8) dX6_pushAt_17 (by decide) ?_
      refine x_icmp_geN (tgt := 100) (a := i) (b := 8) (by omega) (by omega) dX6_pushAt_19 (by decide) (fun c_19 => ?_) (fun c_19 => ?_)
      · refine x_iconst (v := (-1)) dX6_pushAt_100 (by decide) ?_
        exact x_iret dX6_pushAt_101 rfl ⟨_, rfl, fun q => absurd q (by omega), fun _ => rfl⟩
      · have q1 := hg i (by omega)
        have q2 := hg (i - 1) (by omega)
        have p1 := WF.2.2.2.1 i (by omega)
        have p2 := WF.2.2.2.1 (i - 1) (by omega)
        have l1 := WF.2.2.2.2.2.1 (i - 1) (by omega)
        have b1 := WF.P_le (i := i) (by omega)
        rw [show i - 1 + 1 = i by omega] at l1
        refine x_aload_n dX6_pushAt_22 1 rfl ?_
        refine x_get (v := .ref p) dX6_pushAt_23 fX6_11 fa ha rfl ?_
        refine x_iload_n dX6_pushAt_26 0 rfl ?_
        refine x_ialdN (i := i) dX6_pushAt_27 fp hp (by omega) (by decide) ?_
        refine x_aload_n dX6_pushAt_28 1 rfl ?_
        refine x_get (v := .ref p) dX6_pushAt_29 fX6_11 fa ha rfl ?_
        refine x_iload_n dX6_pushAt_32 0 rfl ?_
        refine x_iconst (v := 1) dX6_pushAt_33 (by decide) ?_
        refine x_isubN (a := i) (b := 1) (by omega) dX6_pushAt_34 ?_
        refine x_ialdN (i := (i - 1)) dX6_pushAt_35 fp hp (by omega) (by decide) ?_
        refine x_isub dX6_pushAt_36 ?_
        refine x_istore_n (lv2 := [(3, .int ((g1 i) - (g1 ((i - 1))))), (2, .int (nI i)), (0, .ref a), (1, .int (nI x))]) dX6_pushAt_37 (by decide) rfl ?_
        refine x_iload_n dX6_pushAt_38 3 rfl ?_
        refine x_aload_n dX6_pushAt_39 2 rfl ?_
        refine x_get (v := .ref p) dX6_pushAt_40 fX6_11 fa ha rfl ?_
        refine x_iload_n dX6_pushAt_43 1 rfl ?_
        refine x_ialdN (i := i) dX6_pushAt_44 fp hp (by omega) (by decide) ?_
        rw [q1.1, p1]
        refine x_icmp_gtN (tgt := 94) (a := x) (b := (P i)) (by omega) (by omega) dX6_pushAt_45 (by decide) (fun c_45 => ?_) (fun c_45 => ?_)
        · refine x_iincN (lv2 := [(2, .int (nI (i + 1))), (3, .int (nI (P i) - g1 (i - 1))), (0, .ref a), (1, .int (nI x))]) dX6_pushAt_94 1 rfl (by decide) rfl ?_
          refine x_goto (tgt := 8) dX6_pushAt_97 (by decide) ?_
          refine x_perm [0, 2, 3] rfl ?_
          exact ih (np - (i + 1)) (by omega) (i + 1) rfl ⟨by omega, by omega, Or.inr (by rw [show i + 1 - 1 = i by omega]; omega)⟩
        · refine x_iload_n dX6_pushAt_48 0 rfl ?_
          refine x_if_le (tgt := 94) dX6_pushAt_49 (by decide) (fun c_49 => absurd c_49 (by rw [q2.1, p2, pk_sub (Nat.le_of_lt l1)]; exact nI_nle (by omega) (by omega))) (fun c_49 => ?_)
          refine x_aload_n dX6_pushAt_52 2 rfl ?_
          refine x_get (v := .ref q) dX6_pushAt_53 fX6_15 fa ha rfl ?_
          refine x_iload_n dX6_pushAt_56 1 rfl ?_
          refine x_ialdN (i := i) dX6_pushAt_57 fq hq (by omega) (by decide) ?_
          refine x_aload_n dX6_pushAt_58 2 rfl ?_
          refine x_get (v := .ref q) dX6_pushAt_59 fX6_15 fa ha rfl ?_
          refine x_iload_n dX6_pushAt_62 1 rfl ?_
          refine x_iconst (v := 1) dX6_pushAt_63 (by decide) ?_
          refine x_isubN (a := i) (b := 1) (by omega) dX6_pushAt_64 ?_
          refine x_ialdN (i := (i - 1)) dX6_pushAt_65 fq hq (by omega) (by decide) ?_
          refine x_isub dX6_pushAt_66 ?_
          refine x_istore (lv2 := [(4, .int ((g2 i) - (g2 ((i - 1))))), (3, .int (nI (P i) - g1 (i - 1))), (2, .int (nI i)), (0, .ref a), (1, .int (nI x))]) dX6_pushAt_67 (by decide) rfl ?_
          refine x_aload_n dX6_pushAt_69 3 rfl ?_
          refine x_get (v := .ref q) dX6_pushAt_70 fX6_15 fa ha rfl ?_
          refine x_iload_n dX6_pushAt_73 2 rfl ?_
          refine x_iconst (v := 1) dX6_pushAt_74 (by decide) ?_
          refine x_isubN (a := i) (b := 1) (by omega) dX6_pushAt_75 ?_
          refine x_ialdN (i := (i - 1)) dX6_pushAt_76 fq hq (by omega) (by decide) ?_
          refine x_iload dX6_pushAt_77 0 rfl ?_
          refine x_iload_n dX6_pushAt_79 4 rfl ?_
          refine x_aload_n dX6_pushAt_80 3 rfl ?_
          refine x_get (v := .ref p) dX6_pushAt_81 fX6_11 fa ha rfl ?_
          refine x_iload_n dX6_pushAt_84 2 rfl ?_
          refine x_iconst (v := 1) dX6_pushAt_85 (by decide) ?_
          refine x_isubN (a := i) (b := 1) (by omega) dX6_pushAt_86 ?_
          refine x_ialdN (i := (i - 1)) dX6_pushAt_87 fp hp (by omega) (by decide) ?_
          refine x_isub dX6_pushAt_88 ?_
          refine x_imul dX6_pushAt_89 ?_
          refine x_iload_n dX6_pushAt_90 1 rfl ?_
          refine x_idiv dX6_pushAt_91 (by rw [q2.1, p2]; exact nI_sub_ne0 l1 (by omega)) ?_
          refine x_iadd dX6_pushAt_92 ?_
          exact x_iret dX6_pushAt_93 rfl ⟨_, rfl, fun _ => ⟨i - 1, ⟨by omega, by rw [show i - 1 + 1 = i by omega]; omega, by omega⟩, by unfold puR puX; rw [show i - 1 + 1 = i by omega]; dsimp only; rw [p1, ← q1.2, ← q2.1, ← q2.2]⟩, fun q => absurd q (by have := mono_P WF.2.2.2.2.2.1 (a := i) (b := np - 1) (by omega) (by omega); omega)⟩

set_option maxRecDepth 100000 in
set_option maxHeartbeats 4000000 in
theorem c_pushAt {G : GT} {h : List PE} {a p q : Nat} {ke0 pr0 : Int32} {g1 g2 rec : Nat → Int32} {f np : Nat} {P U : Nat → Nat} {ke pr : Nat} {x : Nat} (fa : h[a]? = some (cO 6 [.ref p, .ref q, .int (nI np), .int ke0, .int pr0])) (fp : h[p]? = some (cI 8 g1)) (fq : h[q]? = some (cI 8 g2)) (ha : 3 ≤ a) (hp : 3 ≤ p) (hq : 3 ≤ q) (WF : WFf rec f np P U ke pr) (hg : ∀ i, i < np → g1 i = rec (f + 3 + i) ∧ g2 i = rec (f + 11 + i)) (hx : x < 2 ^ 31) : CT G mX6_pushAt 0 0 [.ref a, .int (nI x)] h (fun o => ∃ r, o = (some (.int r), h) ∧ (x ≤ P (np - 1) → ∃ k, IsSeg P np x k ∧ r = puR rec f k x) ∧ (P (np - 1) < x → r = -1)) := by
  have w2 := WF.2.1
  show X (NF G) G mX6_pushAt 0 0 0 [(0, .ref a), (1, .int (nI x))] [] h _
  refine x_iload_n dX6_pushAt_0 1 rfl ?_
  refine x_if_geN (a := x) (by omega) (tgt := 6) dX6_pushAt_1 (by decide) ?_
  refine x_iconst (v := 1) dX6_pushAt_6 (by decide) ?_
  refine x_istore_n (lv2 := [(2, .int 1), (0, .ref a), (1, .int (nI x))]) dX6_pushAt_7 (by decide) rfl ?_
  exact l_pushAt fa fp fq ha hp hq WF hg hx (np - 1) 1 rfl ⟨by omega, by omega, Or.inl rfl⟩

set_option maxRecDepth 100000 in
set_option maxHeartbeats 4000000 in
theorem c_pushAtN {G : GT} {h : List PE} {a p q np : Nat} {ke0 pr0 x : Int32}  (hx : ¬ 0 ≤ x) : CT G mX6_pushAt 0 0 [.ref a, .int x] h (fun o => o = (some (.int (-1)), h)) := by
  show X (NF G) G mX6_pushAt 0 0 0 [(0, .ref a), (1, .int x)] [] h _
  refine x_iload_n dX6_pushAt_0 1 rfl ?_
  refine x_if_ge (tgt := 6) dX6_pushAt_1 (by decide) (fun c_1 => absurd c_1 hx) (fun c_1 => ?_)
  refine x_iconst (v := (-1)) dX6_pushAt_4 (by decide) ?_
  exact x_iret dX6_pushAt_5 rfl rfl

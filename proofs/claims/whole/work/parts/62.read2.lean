theorem TkR.sm {h h1 : List PE} {tn : Nat} {tv : Nat → Nat} {N : Nat} {L : List Nat} (x : TkR h tn tv N) (g : Sm L h h1) (hL : ∀ j, j ∈ [7, 9, 10, 11] → j ∉ L) : TkR h1 tn tv N := x.kept (fun j hj => g.2.2 j (hL j hj))
theorem NmC.sm {h h1 : List PE} {nl : NL'} {L : List Nat} (x : NmC h nl) (g : Sm L h h1) (hL : ∀ j, j ∈ [12, 13, 14] → j ∉ L) : NmC h1 nl := x.kept (fun j hj => g.2.2 j (hL j hj))
theorem orN {α : Type} {a b : Option α} (h : a.or b = none) : a = none ∧ b = none := by cases a <;> simp_all
def numOfF (tn : Nat) (tv : Nat → Nat) (k : Nat) (a b : Int32) (i : Nat) : Option (Nat × Nat) := (tokF tn tv k i).or (numF tn tv a b (i + 1))
def szF (tn : Nat) (tv : Nat → Nat) (k i : Nat) : Option (Nat × Nat) := (tokF tn tv k i).or ((numF tn tv 1 9999 (i + 1)).or ((numF tn tv 1 9999 (i + 2)).or (numF tn tv 1 9999 (i + 3))))
theorem numOf_lt {h : List PE} {tn N i k : Nat} {tv : Nat → Nat} {a b : Int32} (hTk : TkR h tn tv N) (hi : i ≤ N) (hk : k < 22) (e : numOfF tn tv k a b i = none) : i + 2 ≤ N ∧ kd tn tv i = k ∧ kd tn tv (i + 1) = 18 ∧ ¬ nI (nv tn tv (i + 1)) < a ∧ ¬ b < nI (nv tn tv (i + 1)) := by
  obtain ⟨e1, e2⟩ := orN e
  obtain ⟨h1, h2⟩ := tok_lt hTk hi hk e1
  obtain ⟨h3, h4⟩ := num_lt hTk h1 e2
  exact ⟨h3, h2, h4⟩
theorem sz_lt {h : List PE} {tn N i k : Nat} {tv : Nat → Nat} (hTk : TkR h tn tv N) (hi : i ≤ N) (hk : k < 22) (e : szF tn tv k i = none) : i + 4 ≤ N ∧ kd tn tv i = k ∧ ∀ j, j < 3 → kd tn tv (i + 1 + j) = 18 ∧ ¬ nI (nv tn tv (i + 1 + j)) < 1 ∧ ¬ (9999 : Int32) < nI (nv tn tv (i + 1 + j)) := by
  obtain ⟨e1, e2⟩ := orN e
  obtain ⟨e2, e3⟩ := orN e2
  obtain ⟨e3, e4⟩ := orN e3
  obtain ⟨h1, h2⟩ := tok_lt hTk hi hk e1
  obtain ⟨h3, h4⟩ := num_lt hTk h1 e2
  obtain ⟨h5, h6⟩ := num_lt hTk h3 e3
  obtain ⟨h7, h8⟩ := num_lt hTk h5 e4
  refine ⟨h7, h2, fun j hj => ?_⟩
  match j, hj with
  | 0, _ => exact h4
  | 1, _ => exact h6
  | 2, _ => exact h8
theorem new_lt {h : List PE} {tn N i : Nat} {tv : Nat → Nat} {nl : NL'} (hTk : TkR h tn tv N) (hi : i ≤ N) (e : newF tn tv nl i = none) : i + 1 ≤ N ∧ kd tn tv i = 17 ∧ ¬ ixN nl (wn tn tv i) < nl.length := by
  unfold newF at e
  by_cases q : kd tn tv i = 17
  · rw [if_pos q] at e
    have := (hTk.ki hi).2
    refine ⟨by omega, q, fun z => ?_⟩
    rw [if_pos z] at e; exact absurd e (by simp)
  · rw [if_neg q] at e; exact absurd e (by simp)
theorem tld_lt {h : List PE} {tn N i k : Nat} {tv : Nat → Nat} {nl : NL'} (hTk : TkR h tn tv N) (hi : i ≤ N) (e : tldF tn tv nl k i = none) : i + 1 ≤ N ∧ kd tn tv i = 17 ∧ ixN nl (wn tn tv i) < nl.length ∧ (nl.getD (ixN nl (wn tn tv i)) (0, 0, 0)).1 = k := by
  unfold tldF at e
  by_cases q : kd tn tv i = 17
  · rw [if_pos q] at e
    have := (hTk.ki hi).2
    by_cases z : ixN nl (wn tn tv i) < nl.length ∧ (nl.getD (ixN nl (wn tn tv i)) (0, 0, 0)).1 = k
    · exact ⟨by omega, q, z⟩
    · rw [if_neg z] at e; exact absurd e (by simp)
  · rw [if_neg q] at e; exact absurd e (by simp)

set_option maxRecDepth 100000 in
set_option maxHeartbeats 4000000 in
theorem c_readNumberOf {G : GT} {h : List PE} {tn N i : Nat} {tv : Nat → Nat} (hTk : TkR h tn tv N) (hi : i ≤ N) {nc v ft fk : Int32} {k : Nat} {a b : Int32} (hk9 : k < 22) (f6 : h[6]? = some (cO 1 [.ref 7, .ref 12, .ref 13, .ref 14, .int nc, .int (nI i), .int v, .int ft, .int fk])) : CT G mX1_readNumberOf 2 44 [.ref 6, .int (nI k), .int a, .int b] h (fun o => Sm [6] h o.2 ∧ match numOfF tn tv k a b i with | none => o.1 = some (.int 1) ∧ o.2[6]? = some (cO 1 [.ref 7, .ref 12, .ref 13, .ref 14, .int nc, .int (nI (i + 2)), .int (nI (nv tn tv (i + 1))), .int ft, .int fk]) | some f => o.1 = some (.int 0) ∧ ∃ at2 v2 : Int32, o.2[6]? = some (cO 1 [.ref 7, .ref 12, .ref 13, .ref 14, .int nc, .int at2, .int v2, .int (nI f.2), .int (nI f.1)])) := by
  have sm0 : Sm [6] h h := Sm.rf
  show X (NF G) G mX1_readNumberOf 2 44 0 [(0, .ref 6), (1, .int (nI k)), (2, .int a), (3, .int b)] [] h _
  refine x_aload_n dX1_readNumberOf_0 0 rfl ?_
  refine x_iload_n dX1_readNumberOf_1 1 rfl ?_
  refine x_callV (rf' := 1) (rl' := 22) [.int (nI k)] [] dX1_readNumberOf_2 vX1_65 Y_X1_readToken f6 (by decide) rfl rfl (Nat.le_of_ble_eq_true rfl) (Nat.le_of_ble_eq_true rfl) (by decide) (by decide) (c_readToken (k := k) (i := i) (hTk.sm sm0 (by decide)) (by omega) (by omega) f6) (fun r h101 e102 => ?_)
  obtain ⟨sm105, e102⟩ := e102
  have sm105 : Sm [6] h h101 := sm105
  have sm107 := sm0.tr (sm105.wide (by decide))
  cases q103 : tokF tn tv k i with
  | none =>
    rw [q103] at e102
    obtain ⟨e0, g106⟩ := e102
    cases e0
    have g106 : h101[6]? = some (cO 1 [.ref 7, .ref 12, .ref 13, .ref 14, .int nc, .int (nI (i + 1)), .int v, .int ft, .int fk]) := g106
    obtain ⟨hin108, kkq103⟩ := tok_lt hTk (by omega) (by omega) q103
    refine x_if_eq (tgt := 21) dX1_readNumberOf_5 (by decide) (fun c_5 => absurd c_5 (by decide)) (fun c_5 => ?_)
    refine x_aload_n dX1_readNumberOf_8 0 rfl ?_
    refine x_iload_n dX1_readNumberOf_9 2 rfl ?_
    refine x_iload_n dX1_readNumberOf_10 3 rfl ?_
    refine x_callV (rf' := 1) (rl' := 22) [.int a, .int b] [] dX1_readNumberOf_11 vX1_134 Y_X1_readNumber g106 (by decide) rfl rfl (Nat.le_of_ble_eq_true rfl) (Nat.le_of_ble_eq_true rfl) (by decide) (by decide) (c_readNumber (a := a) (b := b) (i := (i + 1)) (hTk.sm sm107 (by decide)) (by omega) g106) (fun r h109 e110 => ?_)
    obtain ⟨sm113, e110⟩ := e110
    have sm113 : Sm [6] h101 h109 := sm113
    have sm115 := sm107.tr (sm113.wide (by decide))
    cases q111 : numF tn tv a b (i + 1) with
    | none =>
      rw [q111] at e110
      obtain ⟨e0, g114⟩ := e110
      cases e0
      have g114 : h109[6]? = some (cO 1 [.ref 7, .ref 12, .ref 13, .ref 14, .int nc, .int (nI (i + 2)), .int (nI (nv tn tv (i + 1))), .int ft, .int fk]) := g114
      obtain ⟨hin116, kkq111⟩ := num_lt hTk (by omega) q111
      refine x_if_eq (tgt := 21) dX1_readNumberOf_14 (by decide) (fun c_14 => absurd c_14 (by decide)) (fun c_14 => ?_)
      refine x_iconst (v := 1) dX1_readNumberOf_17 (by decide) ?_
      refine x_goto (tgt := 22) dX1_readNumberOf_18 (by decide) ?_
      exact x_zret dX1_readNumberOf_22 rfl rfl ⟨sm115, by rw [show numOfF tn tv k a b i = none by unfold numOfF; rw [q103, q111]; rfl]; exact ⟨rfl, g114⟩⟩
    | some fl112 =>
      rw [q111] at e110
      obtain ⟨e0, v117, g114⟩ := e110
      cases e0
      refine x_if_eq (tgt := 21) dX1_readNumberOf_14 (by decide) (fun c_14 => ?_) (fun c_14 => absurd (by decide) c_14)
      refine x_iconst (v := 0) dX1_readNumberOf_21 (by decide) ?_
      exact x_zret dX1_readNumberOf_22 rfl rfl ⟨sm115, by rw [show numOfF tn tv k a b i = some fl112 by unfold numOfF; rw [q103, q111]; rfl]; exact ⟨rfl, _, _, g114⟩⟩
  | some fl104 =>
    rw [q103] at e102
    obtain ⟨e0, g106⟩ := e102
    cases e0
    refine x_if_eq (tgt := 21) dX1_readNumberOf_5 (by decide) (fun c_5 => ?_) (fun c_5 => absurd (by decide) c_5)
    refine x_iconst (v := 0) dX1_readNumberOf_21 (by decide) ?_
    exact x_zret dX1_readNumberOf_22 rfl rfl ⟨sm107, by rw [show numOfF tn tv k a b i = some fl104 by unfold numOfF; rw [q103]; rfl]; exact ⟨rfl, _, _, g106⟩⟩

set_option maxRecDepth 100000 in
set_option maxHeartbeats 4000000 in
theorem c_readSizesOf {G : GT} {h : List PE} {tn N i : Nat} {tv : Nat → Nat} (hTk : TkR h tn tv N) (hi : i ≤ N) {nc v ft fk : Int32} {k p : Nat} {z : Nat → Int32} (hk9 : k < 22) (hp : 51 ≤ p) (f6 : h[6]? = some (cO 1 [.ref 7, .ref 12, .ref 13, .ref 14, .int nc, .int (nI i), .int v, .int ft, .int fk])) (fp : h[p]? = some (cI 3 z)) : CT G mX1_readSizesOf 2 44 [.ref 6, .int (nI k), .ref p] h (fun o => Sm [6, p] h o.2 ∧ match szF tn tv k i with | none => o.1 = some (.int 1) ∧ o.2[6]? = some (cO 1 [.ref 7, .ref 12, .ref 13, .ref 14, .int nc, .int (nI (i + 4)), .int (nI (nv tn tv (i + 3))), .int ft, .int fk]) ∧ o.2[p]? = some (cI 3 ((upd (upd (upd z 0 (nI (nv tn tv (i + 1)))) 1 (nI (nv tn tv (i + 2)))) 2 (nI (nv tn tv (i + 3)))))) | some f => o.1 = some (.int 0) ∧ ∃ at2 v2 : Int32, o.2[6]? = some (cO 1 [.ref 7, .ref 12, .ref 13, .ref 14, .int nc, .int at2, .int v2, .int (nI f.2), .int (nI f.1)])) := by
  have sm0 : Sm [6, p] h h := Sm.rf
  show X (NF G) G mX1_readSizesOf 2 44 0 [(0, .ref 6), (1, .int (nI k)), (2, .ref p)] [] h _
  refine x_aload_n dX1_readSizesOf_0 0 rfl ?_
  refine x_iload_n dX1_readSizesOf_1 1 rfl ?_
  refine x_callV (rf' := 1) (rl' := 22) [.int (nI k)] [] dX1_readSizesOf_2 vX1_65 Y_X1_readToken f6 (by decide) rfl rfl (Nat.le_of_ble_eq_true rfl) (Nat.le_of_ble_eq_true rfl) (by decide) (by decide) (c_readToken (k := k) (i := i) hTk (by omega) (by omega) f6) (fun r h101 e102 => ?_)
  obtain ⟨sm105, e102⟩ := e102
  have sm105 : Sm [6] h h101 := sm105
  have f107 := sm105.at fp (by first | decide | (simp; omega) | simp | omega)
  have sm108 := sm0.tr (sm105.wide (by simp))
  cases q103 : tokF tn tv k i with
  | none =>
    rw [q103] at e102
    obtain ⟨e0, g106⟩ := e102
    cases e0
    have g106 : h101[6]? = some (cO 1 [.ref 7, .ref 12, .ref 13, .ref 14, .int nc, .int (nI (i + 1)), .int v, .int ft, .int fk]) := g106
    obtain ⟨hin109, kkq103⟩ := tok_lt hTk (by omega) (by omega) q103
    refine x_if_ne (tgt := 10) dX1_readSizesOf_5 (by decide) (fun c_5 => ?_) (fun c_5 => absurd c_5 (by decide))
    refine x_iconst (v := 0) dX1_readSizesOf_10 (by decide) ?_
    refine x_istore_n (lv2 := [(3, .int 0), (0, .ref 6), (1, .int (nI k)), (2, .ref p)]) dX1_readSizesOf_11 (by decide) rfl ?_
    refine x_iload_n dX1_readSizesOf_12 0 rfl ?_
    refine x_aload_n dX1_readSizesOf_13 3 rfl ?_
    refine x_alen (v := 3) rfl dX1_readSizesOf_14 f107 (by omega) rfl ?_
    refine x_icmp_ge (tgt := 44) dX1_readSizesOf_15 (by decide) (fun c_15 => absurd c_15 (by decide)) (fun c_15 => ?_)
    refine x_aload_n dX1_readSizesOf_18 1 rfl ?_
    refine x_iconst (v := 1) dX1_readSizesOf_19 (by decide) ?_
    refine x_sipush (v := 9999) dX1_readSizesOf_20 (by decide) ?_
    refine x_callV (rf' := 1) (rl' := 22) [.int 1, .int 9999] [] dX1_readSizesOf_23 vX1_134 Y_X1_readNumber g106 (by decide) rfl rfl (Nat.le_of_ble_eq_true rfl) (Nat.le_of_ble_eq_true rfl) (by decide) (by decide) (c_readNumber (a := 1) (b := 9999) (i := (i + 1)) (hTk.sm sm108 (by simp; omega)) (by omega) g106) (fun r h110 e111 => ?_)
    obtain ⟨sm114, e111⟩ := e111
    have sm114 : Sm [6] h101 h110 := sm114
    have f116 := sm114.at f107 (by first | decide | (simp; omega) | simp | omega)
    have sm117 := sm108.tr (sm114.wide (by simp))
    cases q112 : numF tn tv 1 9999 (i + 1) with
    | none =>
      rw [q112] at e111
      obtain ⟨e0, g115⟩ := e111
      cases e0
      have g115 : h110[6]? = some (cO 1 [.ref 7, .ref 12, .ref 13, .ref 14, .int nc, .int (nI (i + 2)), .int (nI (nv tn tv (i + 1))), .int ft, .int fk]) := g115
      obtain ⟨hin118, kkq112⟩ := num_lt hTk (by omega) q112
      refine x_if_ne (tgt := 31) dX1_readSizesOf_26 (by decide) (fun c_26 => ?_) (fun c_26 => absurd c_26 (by decide))
      refine x_aload_n dX1_readSizesOf_31 3 rfl ?_
      refine x_iload_n dX1_readSizesOf_32 0 rfl ?_
      refine x_aload_n dX1_readSizesOf_33 1 rfl ?_
      refine x_get (v := .int (nI (nv tn tv (i + 1)))) dX1_readSizesOf_34 fX1_38 g115 (by decide) rfl ?_
      refine x_iastN (i := 0) dX1_readSizesOf_37 f116 (by omega) (by omega) (by decide) (fun h119 a120 e121 l122 s123 => ?_)
      have f124 := (e121 6 (by omega)).trans g115
      have sm125 := Sm.put sm117 e121 l122 s123 (by simp)
      refine x_iinc (lv2 := [(3, .int 1), (0, .ref 6), (1, .int (nI k)), (2, .ref p)]) dX1_readSizesOf_38 0 rfl (by decide) (by decide) rfl ?_
      refine x_goto (tgt := 12) dX1_readSizesOf_41 (by decide) ?_
      refine x_iload_n dX1_readSizesOf_12 0 rfl ?_
      refine x_aload_n dX1_readSizesOf_13 3 rfl ?_
      refine x_alen (v := 3) rfl dX1_readSizesOf_14 a120 (by omega) rfl ?_
      refine x_icmp_ge (tgt := 44) dX1_readSizesOf_15 (by decide) (fun c_15 => absurd c_15 (by decide)) (fun c_15 => ?_)
      refine x_aload_n dX1_readSizesOf_18 1 rfl ?_
      refine x_iconst (v := 1) dX1_readSizesOf_19 (by decide) ?_
      refine x_sipush (v := 9999) dX1_readSizesOf_20 (by decide) ?_
      refine x_callV (rf' := 1) (rl' := 22) [.int 1, .int 9999] [] dX1_readSizesOf_23 vX1_134 Y_X1_readNumber f124 (by decide) rfl rfl (Nat.le_of_ble_eq_true rfl) (Nat.le_of_ble_eq_true rfl) (by decide) (by decide) (c_readNumber (a := 1) (b := 9999) (i := (i + 2)) (hTk.sm sm125 (by simp; omega)) (by omega) f124) (fun r h126 e127 => ?_)
      obtain ⟨sm130, e127⟩ := e127
      have sm130 : Sm [6] h119 h126 := sm130
      have f132 := sm130.at a120 (by first | decide | (simp; omega) | simp | omega)
      have sm133 := sm125.tr (sm130.wide (by simp))
      cases q128 : numF tn tv 1 9999 (i + 2) with
      | none =>
        rw [q128] at e127
        obtain ⟨e0, g131⟩ := e127
        cases e0
        have g131 : h126[6]? = some (cO 1 [.ref 7, .ref 12, .ref 13, .ref 14, .int nc, .int (nI (i + 3)), .int (nI (nv tn tv (i + 2))), .int ft, .int fk]) := g131
        obtain ⟨hin134, kkq128⟩ := num_lt hTk (by omega) q128
        refine x_if_ne (tgt := 31) dX1_readSizesOf_26 (by decide) (fun c_26 => ?_) (fun c_26 => absurd c_26 (by decide))
        refine x_aload_n dX1_readSizesOf_31 3 rfl ?_
        refine x_iload_n dX1_readSizesOf_32 0 rfl ?_
        refine x_aload_n dX1_readSizesOf_33 1 rfl ?_
        refine x_get (v := .int (nI (nv tn tv (i + 2)))) dX1_readSizesOf_34 fX1_38 g131 (by decide) rfl ?_
        refine x_iastN (i := 1) dX1_readSizesOf_37 f132 (by omega) (by omega) (by decide) (fun h135 a136 e137 l138 s139 => ?_)
        have f140 := (e137 6 (by omega)).trans g131
        have sm141 := Sm.put sm133 e137 l138 s139 (by simp)
        refine x_iinc (lv2 := [(3, .int 2), (0, .ref 6), (1, .int (nI k)), (2, .ref p)]) dX1_readSizesOf_38 0 rfl (by decide) (by decide) rfl ?_
        refine x_goto (tgt := 12) dX1_readSizesOf_41 (by decide) ?_
        refine x_iload_n dX1_readSizesOf_12 0 rfl ?_
        refine x_aload_n dX1_readSizesOf_13 3 rfl ?_
        refine x_alen (v := 3) rfl dX1_readSizesOf_14 a136 (by omega) rfl ?_
        refine x_icmp_ge (tgt := 44) dX1_readSizesOf_15 (by decide) (fun c_15 => absurd c_15 (by decide)) (fun c_15 => ?_)
        refine x_aload_n dX1_readSizesOf_18 1 rfl ?_
        refine x_iconst (v := 1) dX1_readSizesOf_19 (by decide) ?_
        refine x_sipush (v := 9999) dX1_readSizesOf_20 (by decide) ?_
        refine x_callV (rf' := 1) (rl' := 22) [.int 1, .int 9999] [] dX1_readSizesOf_23 vX1_134 Y_X1_readNumber f140 (by decide) rfl rfl (Nat.le_of_ble_eq_true rfl) (Nat.le_of_ble_eq_true rfl) (by decide) (by decide) (c_readNumber (a := 1) (b := 9999) (i := (i + 3)) (hTk.sm sm141 (by simp; omega)) (by omega) f140) (fun r h142 e143 => ?_)
        obtain ⟨sm146, e143⟩ := e143
        have sm146 : Sm [6] h135 h142 := sm146
        have f148 := sm146.at a136 (by first | decide | (simp; omega) | simp | omega)
        have sm149 := sm141.tr (sm146.wide (by simp))
        cases q144 : numF tn tv 1 9999 (i + 3) with
        | none =>
          rw [q144] at e143
          obtain ⟨e0, g147⟩ := e143
          cases e0
          have g147 : h142[6]? = some (cO 1 [.ref 7, .ref 12, .ref 13, .ref 14, .int nc, .int (nI (i + 4)), .int (nI (nv tn tv (i + 3))), .int ft, .int fk]) := g147
          obtain ⟨hin150, kkq144⟩ := num_lt hTk (by omega) q144
          refine x_if_ne (tgt := 31) dX1_readSizesOf_26 (by decide) (fun c_26 => ?_) (fun c_26 => absurd c_26 (by decide))
          refine x_aload_n dX1_readSizesOf_31 3 rfl ?_
          refine x_iload_n dX1_readSizesOf_32 0 rfl ?_
          refine x_aload_n dX1_readSizesOf_33 1 rfl ?_
          refine x_get (v := .int (nI (nv tn tv (i + 3)))) dX1_readSizesOf_34 fX1_38 g147 (by decide) rfl ?_
          refine x_iastN (i := 2) dX1_readSizesOf_37 f148 (by omega) (by omega) (by decide) (fun h151 a152 e153 l154 s155 => ?_)
          have f156 := (e153 6 (by omega)).trans g147
          have sm157 := Sm.put sm149 e153 l154 s155 (by simp)
          refine x_iinc (lv2 := [(3, .int 3), (0, .ref 6), (1, .int (nI k)), (2, .ref p)]) dX1_readSizesOf_38 0 rfl (by decide) (by decide) rfl ?_
          refine x_goto (tgt := 12) dX1_readSizesOf_41 (by decide) ?_
          refine x_iload_n dX1_readSizesOf_12 0 rfl ?_
          refine x_aload_n dX1_readSizesOf_13 3 rfl ?_
          refine x_alen (v := 3) rfl dX1_readSizesOf_14 a152 (by omega) rfl ?_
          refine x_icmp_ge (tgt := 44) dX1_readSizesOf_15 (by decide) (fun c_15 => ?_) (fun c_15 => absurd (by decide) c_15)
          refine x_iconst (v := 1) dX1_readSizesOf_44 (by decide) ?_
          exact x_zret dX1_readSizesOf_45 rfl rfl ⟨sm157, by rw [show szF tn tv k i = none by unfold szF; rw [q103, q112, q128, q144]; rfl]; exact ⟨rfl, f156, a152⟩⟩
        | some fl145 =>
          rw [q144] at e143
          obtain ⟨e0, v158, g147⟩ := e143
          cases e0
          refine x_if_ne (tgt := 31) dX1_readSizesOf_26 (by decide) (fun c_26 => absurd (by decide) c_26) (fun c_26 => ?_)
          refine x_iconst (v := 0) dX1_readSizesOf_29 (by decide) ?_
          exact x_zret dX1_readSizesOf_30 rfl rfl ⟨sm149, by rw [show szF tn tv k i = some fl145 by unfold szF; rw [q103, q112, q128, q144]; rfl]; exact ⟨rfl, _, _, g147⟩⟩
      | some fl129 =>
        rw [q128] at e127
        obtain ⟨e0, v160, g131⟩ := e127
        cases e0
        refine x_if_ne (tgt := 31) dX1_readSizesOf_26 (by decide) (fun c_26 => absurd (by decide) c_26) (fun c_26 => ?_)
        refine x_iconst (v := 0) dX1_readSizesOf_29 (by decide) ?_
        exact x_zret dX1_readSizesOf_30 rfl rfl ⟨sm133, by rw [show szF tn tv k i = some fl129 by unfold szF; rw [q103, q112, q128]; rfl]; exact ⟨rfl, _, _, g131⟩⟩
    | some fl113 =>
      rw [q112] at e111
      obtain ⟨e0, v162, g115⟩ := e111
      cases e0
      refine x_if_ne (tgt := 31) dX1_readSizesOf_26 (by decide) (fun c_26 => absurd (by decide) c_26) (fun c_26 => ?_)
      refine x_iconst (v := 0) dX1_readSizesOf_29 (by decide) ?_
      exact x_zret dX1_readSizesOf_30 rfl rfl ⟨sm117, by rw [show szF tn tv k i = some fl113 by unfold szF; rw [q103, q112]; rfl]; exact ⟨rfl, _, _, g115⟩⟩
  | some fl104 =>
    rw [q103] at e102
    obtain ⟨e0, g106⟩ := e102
    cases e0
    refine x_if_ne (tgt := 10) dX1_readSizesOf_5 (by decide) (fun c_5 => absurd (by decide) c_5) (fun c_5 => ?_)
    refine x_iconst (v := 0) dX1_readSizesOf_8 (by decide) ?_
    exact x_zret dX1_readSizesOf_9 rfl rfl ⟨sm108, by rw [show szF tn tv k i = some fl104 by unfold szF; rw [q103]; rfl]; exact ⟨rfl, _, _, g106⟩⟩

theorem getD_lt {nl : NL'} {e : Nat} (h : e < nl.length) : nl[e]? = some (nl.getD e (0, 0, 0)) := by
  rw [List.getD_eq_getElem?_getD, List.getElem?_eq_getElem h]
  rfl

set_option maxRecDepth 100000 in
set_option maxHeartbeats 4000000 in
theorem l_placeOfName {G : GT} {h : List PE} {nl : NL'} {w b : Nat} {at9 v ft fk : Int32} {y12 : Nat → Int64} (hl : nl.length ≤ 24) (hw : WP w b) (hy : ∀ e, e < nl.length → ∃ b, WP (nl.getD e (0, 0, 0)).2.2 b ∧ y12 e = lN b) (f6 : h[6]? = some (cO 1 [.ref 7, .ref 12, .ref 13, .ref 14, .int (nI (nl.length)), .int at9, .int v, .int ft, .int fk])) (f12 : h[12]? = some (cJ 24 y12)) : ∀ (m e : Nat), nl.length - e = m → e ≤ nl.length → X (NF G) G mX1_placeOfName 0 0 2 [(3, .int (nI e)), (0, .ref 6), (1, .long (lN b))] [] h (fun o => o = (some (.int (if fsM (fun e => decide ((nl.getD e (0, 0, 0)).2.2 = w)) m e < nl.length then nI (fsM (fun e => decide ((nl.getD e (0, 0, 0)).2.2 = w)) m e) else -1)), h)) := by
  intro m
  induction m with
  | zero =>
    intro e hm he
    refine x_iload_n dX1_placeOfName_2 0 rfl ?_
    refine x_aload_n dX1_placeOfName_3 1 rfl ?_
    refine x_get (v := .int (nI (nl.length))) dX1_placeOfName_4 fX1_31 f6 (by decide) rfl ?_
    refine x_icmp_geN (tgt := 35) (a := e) (b := (nl.length)) (by omega) (by omega) dX1_placeOfName_7 (by decide) (fun c_7 => ?_) (fun c_7 => absurd (by omega) c_7)
    refine x_iconst (v := (-1)) dX1_placeOfName_35 (by decide) ?_
    exact x_iret dX1_placeOfName_36 rfl (by rw [fsM, if_neg (by omega)])
  | succ m ih =>
    intro e hm he
    obtain ⟨b9, w9, e9⟩ := hy e (by omega)
    have q9 := (w9.l hw).1
    refine x_iload_n dX1_placeOfName_2 0 rfl ?_
    refine x_aload_n dX1_placeOfName_3 1 rfl ?_
    refine x_get (v := .int (nI (nl.length))) dX1_placeOfName_4 fX1_31 f6 (by decide) rfl ?_
    refine x_icmp_geN (tgt := 35) (a := e) (b := (nl.length)) (by omega) (by omega) dX1_placeOfName_7 (by decide) (fun c_7 => absurd c_7 (by omega)) (fun c_7 => ?_)
    refine x_iload_n dX1_placeOfName_10 0 rfl ?_
    refine x_bipush (v := 24) dX1_placeOfName_11 (by decide) ?_
    refine x_icmp_geN (tgt := 35) (a := e) (b := 24) (by omega) (by omega) dX1_placeOfName_13 (by decide) (fun c_13 => absurd c_13 (by omega)) (fun c_13 => ?_)
    refine x_aload_n dX1_placeOfName_16 1 rfl ?_
    refine x_get (v := .ref 12) dX1_placeOfName_17 fX1_20 f6 (by decide) rfl ?_
    refine x_iload_n dX1_placeOfName_20 0 rfl ?_
    refine x_laldN (i := e) dX1_placeOfName_21 f12 (by decide) (by omega) (by decide) ?_
    refine x_lload_n dX1_placeOfName_22 2 rfl ?_
    refine x_lif_ne (tgt := 29) dX1_placeOfName_23 dX1_placeOfName_24 (by decide) (fun c_24 => ?_) (fun c_24 => ?_)
    · refine x_iincN (lv2 := [(3, .int (nI (e + 1))), (0, .ref 6), (1, .long (lN b))]) dX1_placeOfName_29 0 rfl (by decide) rfl ?_
      refine x_goto (tgt := 2) dX1_placeOfName_32 (by decide) ?_
      refine x_perm [0, 1, 2] rfl ?_
      exact (ih (e + 1) (by omega) (by omega)).weaken (fun o ho => by rw [ho, fsM, if_neg (show ¬ decide ((nl.getD e (0, 0, 0)).2.2 = w) = true by rw [decide_eq_true_eq]; exact fun z => c_24 (by rw [e9]; exact q9.mpr z))])
    · refine x_iload_n dX1_placeOfName_27 0 rfl ?_
      exact x_iret dX1_placeOfName_28 rfl (by rw [fsM, if_pos (show decide ((nl.getD e (0, 0, 0)).2.2 = w) = true by rw [decide_eq_true_eq]; exact q9.mp (by rw [← e9]; exact c_24)), if_pos (by omega)])

set_option maxRecDepth 100000 in
set_option maxHeartbeats 4000000 in
theorem c_placeOfName {G : GT} {h : List PE} {nl : NL'} {w b : Nat} {at9 v ft fk : Int32} {y12 : Nat → Int64} (hl : nl.length ≤ 24) (hw : WP w b) (hy : ∀ e, e < nl.length → ∃ b, WP (nl.getD e (0, 0, 0)).2.2 b ∧ y12 e = lN b) (f6 : h[6]? = some (cO 1 [.ref 7, .ref 12, .ref 13, .ref 14, .int (nI (nl.length)), .int at9, .int v, .int ft, .int fk])) (f12 : h[12]? = some (cJ 24 y12)) : CT G mX1_placeOfName 0 0 [.ref 6, .long (lN b)] h (fun o => o = (some (.int (if ixN nl w < nl.length then nI (ixN nl w) else -1)), h)) := by
  show X (NF G) G mX1_placeOfName 0 0 0 [(0, .ref 6), (1, .long (lN b))] [] h _
  refine x_iconst (v := 0) dX1_placeOfName_0 (by decide) ?_
  refine x_istore_n (lv2 := [(3, .int 0), (0, .ref 6), (1, .long (lN b))]) dX1_placeOfName_1 (by decide) rfl ?_
  refine x_perm (lv2 := [(3, .int (nI 0)), (0, .ref 6), (1, .long (lN b))]) [0, 1, 2] rfl ?_
  exact l_placeOfName hl hw hy f6 f12 nl.length 0 rfl (by omega)

theorem tld_tok {tn i k : Nat} {tv : Nat → Nat} {nl : NL'} {f : Nat × Nat} (h : tokF tn tv 17 i = some f) : tldF tn tv nl k i = some f := by
  unfold tokF at h
  unfold tldF
  by_cases q : kd tn tv i = 17
  · rw [if_pos q] at h; exact absurd h (by simp)
  · rw [if_neg q] at h ⊢; exact h
theorem new_tok {tn i : Nat} {tv : Nat → Nat} {nl : NL'} {f : Nat × Nat} (h : tokF tn tv 17 i = some f) : newF tn tv nl i = some f := by
  unfold tokF at h
  unfold newF
  by_cases q : kd tn tv i = 17
  · rw [if_pos q] at h; exact absurd h (by simp)
  · rw [if_neg q] at h ⊢; exact h

set_option maxRecDepth 100000 in
set_option maxHeartbeats 4000000 in
theorem c_readToldName {G : GT} {h : List PE} {tn N i : Nat} {tv : Nat → Nat} (hTk : TkR h tn tv N) (hi : i ≤ N) {nl : NL'} {k : Nat} {v ft fk : Int32} (hNm : NmC h nl) (hk3 : k < 3) (f6 : h[6]? = some (cO 1 [.ref 7, .ref 12, .ref 13, .ref 14, .int (nI (nl.length)), .int (nI i), .int v, .int ft, .int fk])) : CT G mX1_readToldName 2 43 [.ref 6, .int (nI k)] h (fun o => Sm [6] h o.2 ∧ match tldF tn tv nl k i with | none => o.1 = some (.int 1) ∧ o.2[6]? = some (cO 1 [.ref 7, .ref 12, .ref 13, .ref 14, .int (nI (nl.length)), .int (nI (i + 1)), .int (nI (tldV tn tv nl i)), .int ft, .int fk]) | some f => o.1 = some (.int 0) ∧ ∃ at2 : Int32, o.2[6]? = some (cO 1 [.ref 7, .ref 12, .ref 13, .ref 14, .int (nI (nl.length)), .int at2, .int v, .int (nI f.2), .int (nI f.1)])) := by
  obtain ⟨z9, z10, z11, f7, f9, f10, f11, hR, hN⟩ := id hTk
  obtain ⟨hl, y12, y13, y14, f12, f13, f14, hy⟩ := id hNm
  have hN6 := hTk.le
  have sm0 : Sm [6] h h := Sm.rf
  show X (NF G) G mX1_readToldName 2 43 0 [(0, .ref 6), (1, .int (nI k))] [] h _
  refine x_aload_n dX1_readToldName_0 0 rfl ?_
  refine x_bipush (v := 17) dX1_readToldName_1 (by decide) ?_
  refine x_callV (rf' := 1) (rl' := 22) [.int 17] [] dX1_readToldName_3 vX1_65 Y_X1_readToken f6 (by decide) rfl rfl (Nat.le_of_ble_eq_true rfl) (Nat.le_of_ble_eq_true rfl) (by decide) (by decide) (c_readToken (k := 17) (i := i) (hTk.sm sm0 (by decide)) (by omega) (by omega) f6) (fun r h101 e102 => ?_)
  obtain ⟨sm105, e102⟩ := e102
  have sm105 : Sm [6] h h101 := sm105
  have f107 := sm105.at f7 (by first | decide | (simp; omega) | simp | omega)
  have f108 := sm105.at f12 (by first | decide | (simp; omega) | simp | omega)
  have f109 := sm105.at f13 (by first | decide | (simp; omega) | simp | omega)
  have f110 := sm105.at f14 (by first | decide | (simp; omega) | simp | omega)
  have sm111 := sm0.tr (sm105.wide (by decide))
  cases q103 : tokF tn tv 17 i with
  | none =>
    rw [q103] at e102
    obtain ⟨e0, g106⟩ := e102
    cases e0
    have g106 : h101[6]? = some (cO 1 [.ref 7, .ref 12, .ref 13, .ref 14, .int (nI (nl.length)), .int (nI (i + 1)), .int v, .int ft, .int fk]) := g106
    obtain ⟨hin112, kkq103⟩ := tok_lt hTk (by omega) (by omega) q103
    refine x_if_ne (tgt := 11) dX1_readToldName_6 (by decide) (fun c_6 => ?_) (fun c_6 => absurd c_6 (by decide))
    refine x_aload_n dX1_readToldName_11 0 rfl ?_
    refine x_aload_n dX1_readToldName_12 0 rfl ?_
    refine x_get (v := .ref 7) dX1_readToldName_13 fX1_14 g106 (by decide) rfl ?_
    refine x_aload_n dX1_readToldName_16 0 rfl ?_
    refine x_get (v := .int (nI (i + 1))) dX1_readToldName_17 fX1_35 g106 (by decide) rfl ?_
    refine x_iconst (v := 1) dX1_readToldName_20 (by decide) ?_
    refine x_isubN (a := (i + 1)) (b := 1) (by omega) dX1_readToldName_21 ?_
    refine x_callV (rf' := 0) (rl' := 0) [.int (nI ((i + 1) - 1))] [.ref 6] dX1_readToldName_22 vX1_225 Y_X10_valueAt f107 (by decide) rfl rfl (Nat.le_of_ble_eq_true rfl) (Nat.le_of_ble_eq_true rfl) (by decide) (by decide) (c_valueW (i := i) (hTk.sm sm111 (by decide)) hi (by omega)) (fun _ _ e113 => ?_)
    cases e113
    have hW := (kd_word (show kd tn tv i ≤ 17 by omega)).1
    refine x_callV (rf' := 0) (rl' := 0) [.long (lN (wc tn tv i))] [] dX1_readToldName_25 vX1_229 Y_X1_placeOfName g106 (by decide) rfl rfl (Nat.le_of_ble_eq_true rfl) (Nat.le_of_ble_eq_true rfl) (by decide) (by decide) (c_placeOfName hl hW (fun e he => (hy e he).2.2.2.2) g106 f108) (fun _ _ e114 => ?_)
    cases e114
    by_cases hx : ixN nl (wn tn tv i) < nl.length
    · rw [if_pos hx]
      obtain ⟨u1, u2, u3, u4, -⟩ := hy _ hx
      refine x_istore_n (lv2 := [(2, .int (nI (ixN nl (wn tn tv i)))), (0, .ref 6), (1, .int (nI k))]) dX1_readToldName_28 (by decide) rfl ?_
      refine x_iload_n dX1_readToldName_29 0 rfl ?_
      refine x_if_ltN (a := (ixN nl (wn tn tv i))) (by omega) (tgt := 49) dX1_readToldName_30 (by decide) ?_
      refine x_iload_n dX1_readToldName_33 0 rfl ?_
      refine x_bipush (v := 24) dX1_readToldName_34 (by decide) ?_
      refine x_icmp_geN (tgt := 49) (a := (ixN nl (wn tn tv i))) (b := 24) (by omega) (by omega) dX1_readToldName_36 (by decide) (fun c_36 => absurd c_36 (by omega)) (fun c_36 => ?_)
      refine x_aload_n dX1_readToldName_39 1 rfl ?_
      refine x_get (v := .ref 13) dX1_readToldName_40 fX1_24 g106 (by decide) rfl ?_
      refine x_iload_n dX1_readToldName_43 0 rfl ?_
      refine x_ialdN (i := (ixN nl (wn tn tv i))) dX1_readToldName_44 f109 (by decide) (by omega) (by decide) ?_
      refine x_iload_n dX1_readToldName_45 2 rfl ?_
      refine x_icmp_eq (tgt := 61) dX1_readToldName_46 (by decide) (fun c_46 => ?_) (fun c_46 => ?_)
      · refine x_aload_n dX1_readToldName_61 1 rfl ?_
        refine x_aload_n dX1_readToldName_62 1 rfl ?_
        refine x_get (v := .ref 14) dX1_readToldName_63 fX1_28 g106 (by decide) rfl ?_
        refine x_iload_n dX1_readToldName_66 0 rfl ?_
        refine x_ialdN (i := (ixN nl (wn tn tv i))) dX1_readToldName_67 f110 (by decide) (by omega) (by decide) ?_
        refine x_put (fs2 := [.ref 7, .ref 12, .ref 13, .ref 14, .int (nI (nl.length)), .int (nI (i + 1)), .int (y14 ((ixN nl (wn tn tv i)))), .int ft, .int fk]) dX1_readToldName_68 fX1_38 (Or.inl rfl) g106 (by decide) rfl rfl (Nat.le_of_ble_eq_true rfl) rfl (fun h115 a116 e117 l118 s119 => ?_)
        have f120 := (e117 7 (by decide)).trans f107
        have f121 := (e117 12 (by decide)).trans f108
        have f122 := (e117 13 (by decide)).trans f109
        have f123 := (e117 14 (by decide)).trans f110
        have sm124 := Sm.put sm111 e117 l118 s119 (by decide)
        refine x_iconst (v := 1) dX1_readToldName_71 (by decide) ?_
        exact x_zret dX1_readToldName_72 rfl rfl ⟨sm124, by rw [show tldF tn tv nl k i = none from (if_pos (by omega)).trans (if_pos ⟨hx, (nI_eq (by omega) (by omega)).mp (u1.symm.trans c_46)⟩)]; rw [u2] at a116; exact ⟨rfl, a116⟩⟩
      · refine x_aload_n dX1_readToldName_49 1 rfl ?_
        refine x_aload_n dX1_readToldName_50 1 rfl ?_
        refine x_get (v := .int (nI (i + 1))) dX1_readToldName_51 fX1_35 g106 (by decide) rfl ?_
        refine x_iconst (v := 1) dX1_readToldName_54 (by decide) ?_
        refine x_isubN (a := (i + 1)) (b := 1) (by omega) dX1_readToldName_55 ?_
        refine x_iconst (v := 3) dX1_readToldName_56 (by decide) ?_
        refine x_callV (rf' := 0) (rl' := 0) [.int (nI ((i + 1) - 1)), .int 3] [] dX1_readToldName_57 vX1_71 Y_X1_refuse g106 (by decide) rfl rfl (Nat.le_of_ble_eq_true rfl) (Nat.le_of_ble_eq_true rfl) (by decide) (by decide) (c_refuse g106) (fun r h125 e126 => ?_)
        obtain ⟨sm128, e0, g127⟩ := e126
        cases e0
        have sm128 : Sm [6] h101 h125 := sm128
        have sm129 := sm111.tr (sm128.wide (by decide))
        have f130 := sm128.at f107 (by first | decide | (simp; omega) | simp | omega)
        have f131 := sm128.at f108 (by first | decide | (simp; omega) | simp | omega)
        have f132 := sm128.at f109 (by first | decide | (simp; omega) | simp | omega)
        have f133 := sm128.at f110 (by first | decide | (simp; omega) | simp | omega)
        exact x_zret dX1_readToldName_60 rfl rfl ⟨sm129, by rw [show tldF tn tv nl k i = some (3, i) from (if_pos (by omega)).trans (if_neg (fun z => c_46 (by rw [u1, z.2])))]; exact ⟨rfl, _, g127⟩⟩
    · rw [if_neg hx]
      refine x_istore_n (lv2 := [(2, .int (-1)), (0, .ref 6), (1, .int (nI k))]) dX1_readToldName_28 (by decide) rfl ?_
      refine x_iload_n dX1_readToldName_29 0 rfl ?_
      refine x_if_lt (tgt := 49) dX1_readToldName_30 (by decide) (fun c_30 => ?_) (fun c_30 => absurd (by decide) c_30)
      refine x_aload_n dX1_readToldName_49 1 rfl ?_
      refine x_aload_n dX1_readToldName_50 1 rfl ?_
      refine x_get (v := .int (nI (i + 1))) dX1_readToldName_51 fX1_35 g106 (by decide) rfl ?_
      refine x_iconst (v := 1) dX1_readToldName_54 (by decide) ?_
      refine x_isubN (a := (i + 1)) (b := 1) (by omega) dX1_readToldName_55 ?_
      refine x_iconst (v := 3) dX1_readToldName_56 (by decide) ?_
      refine x_callV (rf' := 0) (rl' := 0) [.int (nI ((i + 1) - 1)), .int 3] [] dX1_readToldName_57 vX1_71 Y_X1_refuse g106 (by decide) rfl rfl (Nat.le_of_ble_eq_true rfl) (Nat.le_of_ble_eq_true rfl) (by decide) (by decide) (c_refuse g106) (fun r h134 e135 => ?_)
      obtain ⟨sm137, e0, g136⟩ := e135
      cases e0
      have sm137 : Sm [6] h101 h134 := sm137
      have sm138 := sm111.tr (sm137.wide (by decide))
      have f139 := sm137.at f107 (by first | decide | (simp; omega) | simp | omega)
      have f140 := sm137.at f108 (by first | decide | (simp; omega) | simp | omega)
      have f141 := sm137.at f109 (by first | decide | (simp; omega) | simp | omega)
      have f142 := sm137.at f110 (by first | decide | (simp; omega) | simp | omega)
      exact x_zret dX1_readToldName_60 rfl rfl ⟨sm138, by rw [show tldF tn tv nl k i = some (3, i) from (if_pos (by omega)).trans (if_neg (fun z => hx z.1))]; exact ⟨rfl, _, g136⟩⟩
  | some fl104 =>
    rw [q103] at e102
    obtain ⟨e0, g106⟩ := e102
    cases e0
    refine x_if_ne (tgt := 11) dX1_readToldName_6 (by decide) (fun c_6 => absurd (by decide) c_6) (fun c_6 => ?_)
    refine x_iconst (v := 0) dX1_readToldName_9 (by decide) ?_
    exact x_zret dX1_readToldName_10 rfl rfl ⟨sm111, by rw [show tldF tn tv nl k i = some fl104 from tld_tok q103]; exact ⟨rfl, _, g106⟩⟩

theorem getD_app {nl : NL'} {x : Nat × Nat × Nat} {e : Nat} : (e < nl.length → (nl ++ [x]).getD e (0, 0, 0) = nl.getD e (0, 0, 0)) ∧ (e = nl.length → (nl ++ [x]).getD e (0, 0, 0) = x) := by
  constructor
  · intro h
    rw [List.getD_eq_getElem?_getD, List.getD_eq_getElem?_getD, List.getElem?_append_left h]
  · intro h
    subst h
    rw [List.getD_eq_getElem?_getD, List.getElem?_append_right (Nat.le_refl _), Nat.sub_self]
    rfl
theorem NmC.add {h1 : List PE} {nl : NL'} {y12 : Nat → Int64} {y13 y14 : Nat → Int32} {k c w b : Nat} (hl : nl.length < 24) (hk : k < 3) (hc : c < 8) (hw : WP w b) (hy : ∀ e, e < nl.length → y13 e = nI (nl.getD e (0, 0, 0)).1 ∧ y14 e = nI (nl.getD e (0, 0, 0)).2.1 ∧ (nl.getD e (0, 0, 0)).1 < 3 ∧ (nl.getD e (0, 0, 0)).2.1 < 8 ∧ ∃ b, WP (nl.getD e (0, 0, 0)).2.2 b ∧ y12 e = lN b)
  (g12 : h1[12]? = some (cJ 24 (vp_updL y12 nl.length (lN b)))) (g13 : h1[13]? = some (cI 24 (upd y13 nl.length (nI k)))) (g14 : h1[14]? = some (cI 24 (upd y14 nl.length (nI c)))) : NmC h1 (nl ++ [(k, c, w)]) := by
  refine ⟨by rw [List.length_append]; simp; omega, _, _, _, g12, g13, g14, fun e he => ?_⟩
  rw [List.length_append] at he
  by_cases q : e = nl.length
  · rw [(getD_app (x := (k, c, w))).2 q, q, pk_us, pk_us, pk_uLs]
    exact ⟨rfl, rfl, hk, hc, b, hw, rfl⟩
  · have q2 : e < nl.length := by simp at he; omega
    rw [(getD_app (x := (k, c, w))).1 q2, pk_un q, pk_un q, pk_uLn q]
    exact hy e q2

set_option maxRecDepth 100000 in
set_option maxHeartbeats 4000000 in
theorem c_readNewName {G : GT} {h : List PE} {tn N i : Nat} {tv : Nat → Nat} (hTk : TkR h tn tv N) (hi : i ≤ N) {nl : NL'} {k c : Nat} {v ft fk : Int32} (hNm : NmC h nl) (hk3 : k < 3) (hc8 : c < 8) (hl24 : nl.length < 24) (f6 : h[6]? = some (cO 1 [.ref 7, .ref 12, .ref 13, .ref 14, .int (nI (nl.length)), .int (nI i), .int v, .int ft, .int fk])) : CT G mX1_readNewName 2 43 [.ref 6, .int (nI k), .int (nI c)] h (fun o => Sm [6, 12, 13, 14] h o.2 ∧ match newF tn tv nl i with | none => o.1 = some (.int 1) ∧ o.2[6]? = some (cO 1 [.ref 7, .ref 12, .ref 13, .ref 14, .int (nI (nl.length + 1)), .int (nI (i + 1)), .int v, .int ft, .int fk]) ∧ NmC o.2 (nl ++ [(k, c, wn tn tv i)]) | some f => o.1 = some (.int 0) ∧ ∃ at2 : Int32, o.2[6]? = some (cO 1 [.ref 7, .ref 12, .ref 13, .ref 14, .int (nI (nl.length)), .int at2, .int v, .int (nI f.2), .int (nI f.1)]) ∧ Sm [6] h o.2) := by
  obtain ⟨z9, z10, z11, f7, f9, f10, f11, hR, hN⟩ := id hTk
  obtain ⟨hl, y12, y13, y14, f12, f13, f14, hy⟩ := id hNm
  have hN6 := hTk.le
  have sm0 : Sm [6, 12, 13, 14] h h := Sm.rf
  have sn0 : Sm [6] h h := Sm.rf
  show X (NF G) G mX1_readNewName 2 43 0 [(0, .ref 6), (1, .int (nI k)), (2, .int (nI c))] [] h _
  refine x_aload_n dX1_readNewName_0 0 rfl ?_
  refine x_bipush (v := 17) dX1_readNewName_1 (by decide) ?_
  refine x_callV (rf' := 1) (rl' := 22) [.int 17] [] dX1_readNewName_3 vX1_65 Y_X1_readToken f6 (by decide) rfl rfl (Nat.le_of_ble_eq_true rfl) (Nat.le_of_ble_eq_true rfl) (by decide) (by decide) (c_readToken (k := 17) (i := i) (hTk.sm sm0 (by decide)) (by omega) (by omega) f6) (fun r h101 e102 => ?_)
  obtain ⟨sm105, e102⟩ := e102
  have sm105 : Sm [6] h h101 := sm105
  have f107 := sm105.at f7 (by first | decide | (simp; omega) | simp | omega)
  have f108 := sm105.at f12 (by first | decide | (simp; omega) | simp | omega)
  have f109 := sm105.at f13 (by first | decide | (simp; omega) | simp | omega)
  have f110 := sm105.at f14 (by first | decide | (simp; omega) | simp | omega)
  have sm111 := sm0.tr (sm105.wide (by decide))
  cases q103 : tokF tn tv 17 i with
  | none =>
    rw [q103] at e102
    obtain ⟨e0, g106⟩ := e102
    cases e0
    have g106 : h101[6]? = some (cO 1 [.ref 7, .ref 12, .ref 13, .ref 14, .int (nI (nl.length)), .int (nI (i + 1)), .int v, .int ft, .int fk]) := g106
    obtain ⟨hin112, kkq103⟩ := tok_lt hTk (by omega) (by omega) q103
    refine x_if_ne (tgt := 11) dX1_readNewName_6 (by decide) (fun c_6 => ?_) (fun c_6 => absurd c_6 (by decide))
    refine x_aload_n dX1_readNewName_11 0 rfl ?_
    refine x_get (v := .ref 7) dX1_readNewName_12 fX1_14 g106 (by decide) rfl ?_
    refine x_aload_n dX1_readNewName_15 0 rfl ?_
    refine x_get (v := .int (nI (i + 1))) dX1_readNewName_16 fX1_35 g106 (by decide) rfl ?_
    refine x_iconst (v := 1) dX1_readNewName_19 (by decide) ?_
    refine x_isubN (a := (i + 1)) (b := 1) (by omega) dX1_readNewName_20 ?_
    refine x_callV (rf' := 0) (rl' := 0) [.int (nI ((i + 1) - 1))] [] dX1_readNewName_21 vX1_225 Y_X10_valueAt f107 (by decide) rfl rfl (Nat.le_of_ble_eq_true rfl) (Nat.le_of_ble_eq_true rfl) (by decide) (by decide) (c_valueW (i := i) (hTk.sm sm111 (by decide)) hi (by omega)) (fun _ _ e113 => ?_)
    cases e113
    have hW := (kd_word (show kd tn tv i ≤ 17 by omega)).1
    refine x_lstore_n (lv2 := [(3, .long (lN (wc tn tv i))), (0, .ref 6), (1, .int (nI k)), (2, .int (nI c))]) dX1_readNewName_24 (by decide) rfl ?_
    refine x_aload_n dX1_readNewName_25 1 rfl ?_
    refine x_lload_n dX1_readNewName_26 0 rfl ?_
    refine x_callV (rf' := 0) (rl' := 0) [.long (lN (wc tn tv i))] [] dX1_readNewName_27 vX1_229 Y_X1_placeOfName g106 (by decide) rfl rfl (Nat.le_of_ble_eq_true rfl) (Nat.le_of_ble_eq_true rfl) (by decide) (by decide) (c_placeOfName hl hW (fun e he => (hy e he).2.2.2.2) g106 f108) (fun _ _ e114 => ?_)
    cases e114
    by_cases hx : ixN nl (wn tn tv i) < nl.length
    · rw [if_pos hx]
      obtain ⟨u1, u2, u3, u4, -⟩ := hy _ hx
      refine x_iconst (v := (-1)) dX1_readNewName_30 (by decide) ?_
      refine x_icmp_ne (tgt := 43) dX1_readNewName_31 (by decide) (fun c_31 => ?_) (fun c_31 => ?_)
      · refine x_aload_n dX1_readNewName_43 1 rfl ?_
        refine x_aload_n dX1_readNewName_44 1 rfl ?_
        refine x_get (v := .int (nI (i + 1))) dX1_readNewName_45 fX1_35 g106 (by decide) rfl ?_
        refine x_iconst (v := 1) dX1_readNewName_48 (by decide) ?_
        refine x_isubN (a := (i + 1)) (b := 1) (by omega) dX1_readNewName_49 ?_
        refine x_iconst (v := 3) dX1_readNewName_50 (by decide) ?_
        refine x_callV (rf' := 0) (rl' := 0) [.int (nI ((i + 1) - 1)), .int 3] [] dX1_readNewName_51 vX1_71 Y_X1_refuse g106 (by decide) rfl rfl (Nat.le_of_ble_eq_true rfl) (Nat.le_of_ble_eq_true rfl) (by decide) (by decide) (c_refuse g106) (fun r h115 e116 => ?_)
        obtain ⟨sm118, e0, g117⟩ := e116
        cases e0
        have sm118 : Sm [6] h101 h115 := sm118
        have sm119 := sm111.tr (sm118.wide (by decide))
        have f120 := sm118.at f107 (by first | decide | (simp; omega) | simp | omega)
        have f121 := sm118.at f108 (by first | decide | (simp; omega) | simp | omega)
        have f122 := sm118.at f109 (by first | decide | (simp; omega) | simp | omega)
        have f123 := sm118.at f110 (by first | decide | (simp; omega) | simp | omega)
        exact x_zret dX1_readNewName_54 rfl rfl ⟨sm119, by rw [show newF tn tv nl i = some (3, i) from (if_pos (by omega)).trans (if_pos hx)]; exact ⟨rfl, _, g117, ((sn0.tr sm105).tr sm118)⟩⟩
      · refine x_aload_n dX1_readNewName_34 1 rfl ?_
        refine x_get (v := .int (nI (nl.length))) dX1_readNewName_35 fX1_31 g106 (by decide) rfl ?_
        refine x_bipush (v := 24) dX1_readNewName_38 (by decide) ?_
        refine x_icmp_ltN (tgt := 55) (a := (nl.length)) (b := 24) (by omega) (by omega) dX1_readNewName_40 (by decide) (fun c_40 => ?_) (fun c_40 => absurd (by omega) c_40)
        refine x_aload_n dX1_readNewName_55 1 rfl ?_
        refine x_get (v := .ref 12) dX1_readNewName_56 fX1_20 g106 (by decide) rfl ?_
        refine x_aload_n dX1_readNewName_59 1 rfl ?_
        refine x_get (v := .int (nI (nl.length))) dX1_readNewName_60 fX1_31 g106 (by decide) rfl ?_
        refine x_lload_n dX1_readNewName_63 0 rfl ?_
        refine x_lastN (i := (nl.length)) dX1_readNewName_64 f108 (by decide) (by omega) (by decide) (fun h124 a125 e126 l127 s128 => ?_)
        have f129 := (e126 6 (by decide)).trans g106
        have f130 := (e126 7 (by decide)).trans f107
        have f131 := (e126 13 (by decide)).trans f109
        have f132 := (e126 14 (by decide)).trans f110
        have sm133 := Sm.put sm111 e126 l127 s128 (by decide)
        refine x_aload_n dX1_readNewName_65 1 rfl ?_
        refine x_get (v := .ref 13) dX1_readNewName_66 fX1_24 f129 (by decide) rfl ?_
        refine x_aload_n dX1_readNewName_69 1 rfl ?_
        refine x_get (v := .int (nI (nl.length))) dX1_readNewName_70 fX1_31 f129 (by decide) rfl ?_
        refine x_iload_n dX1_readNewName_73 2 rfl ?_
        refine x_iastN (i := (nl.length)) dX1_readNewName_74 f131 (by decide) (by omega) (by decide) (fun h134 a135 e136 l137 s138 => ?_)
        have f139 := (e136 6 (by decide)).trans f129
        have f140 := (e136 7 (by decide)).trans f130
        have f141 := (e136 12 (by decide)).trans a125
        have f142 := (e136 14 (by decide)).trans f132
        have sm143 := Sm.put sm133 e136 l137 s138 (by decide)
        refine x_aload_n dX1_readNewName_75 1 rfl ?_
        refine x_get (v := .ref 14) dX1_readNewName_76 fX1_28 f139 (by decide) rfl ?_
        refine x_aload_n dX1_readNewName_79 1 rfl ?_
        refine x_get (v := .int (nI (nl.length))) dX1_readNewName_80 fX1_31 f139 (by decide) rfl ?_
        refine x_iload_n dX1_readNewName_83 3 rfl ?_
        refine x_iastN (i := (nl.length)) dX1_readNewName_84 f142 (by decide) (by omega) (by decide) (fun h144 a145 e146 l147 s148 => ?_)
        have f149 := (e146 6 (by decide)).trans f139
        have f150 := (e146 7 (by decide)).trans f140
        have f151 := (e146 12 (by decide)).trans f141
        have f152 := (e146 13 (by decide)).trans a135
        have sm153 := Sm.put sm143 e146 l147 s148 (by decide)
        refine x_aload_n dX1_readNewName_85 1 rfl ?_
        refine x_dup dX1_readNewName_86 rfl ?_
        refine x_get (v := .int (nI (nl.length))) dX1_readNewName_87 fX1_31 f149 (by decide) rfl ?_
        refine x_iconst (v := 1) dX1_readNewName_90 (by decide) ?_
        refine x_iaddN (a := (nl.length)) (b := 1) dX1_readNewName_91 ?_
        refine x_put (fs2 := [.ref 7, .ref 12, .ref 13, .ref 14, .int (nI ((nl.length) + 1)), .int (nI (i + 1)), .int v, .int ft, .int fk]) dX1_readNewName_92 fX1_31 (Or.inl rfl) f149 (by decide) rfl rfl (Nat.le_of_ble_eq_true rfl) rfl (fun h154 a155 e156 l157 s158 => ?_)
        have f159 := (e156 7 (by decide)).trans f150
        have f160 := (e156 12 (by decide)).trans f151
        have f161 := (e156 13 (by decide)).trans f152
        have f162 := (e156 14 (by decide)).trans a145
        have sm163 := Sm.put sm153 e156 l157 s158 (by decide)
        refine x_iconst (v := 1) dX1_readNewName_95 (by decide) ?_
        exact x_zret dX1_readNewName_96 rfl rfl (absurd c_31 (nI_ne_m1 (by omega)))
    · rw [if_neg hx]
      refine x_iconst (v := (-1)) dX1_readNewName_30 (by decide) ?_
      refine x_icmp_ne (tgt := 43) dX1_readNewName_31 (by decide) (fun c_31 => absurd (by decide) c_31) (fun c_31 => ?_)
      refine x_aload_n dX1_readNewName_34 1 rfl ?_
      refine x_get (v := .int (nI (nl.length))) dX1_readNewName_35 fX1_31 g106 (by decide) rfl ?_
      refine x_bipush (v := 24) dX1_readNewName_38 (by decide) ?_
      refine x_icmp_ltN (tgt := 55) (a := (nl.length)) (b := 24) (by omega) (by omega) dX1_readNewName_40 (by decide) (fun c_40 => ?_) (fun c_40 => absurd (by omega) c_40)
      refine x_aload_n dX1_readNewName_55 1 rfl ?_
      refine x_get (v := .ref 12) dX1_readNewName_56 fX1_20 g106 (by decide) rfl ?_
      refine x_aload_n dX1_readNewName_59 1 rfl ?_
      refine x_get (v := .int (nI (nl.length))) dX1_readNewName_60 fX1_31 g106 (by decide) rfl ?_
      refine x_lload_n dX1_readNewName_63 0 rfl ?_
      refine x_lastN (i := (nl.length)) dX1_readNewName_64 f108 (by decide) (by omega) (by decide) (fun h164 a165 e166 l167 s168 => ?_)
      have f169 := (e166 6 (by decide)).trans g106
      have f170 := (e166 7 (by decide)).trans f107
      have f171 := (e166 13 (by decide)).trans f109
      have f172 := (e166 14 (by decide)).trans f110
      have sm173 := Sm.put sm111 e166 l167 s168 (by decide)
      refine x_aload_n dX1_readNewName_65 1 rfl ?_
      refine x_get (v := .ref 13) dX1_readNewName_66 fX1_24 f169 (by decide) rfl ?_
      refine x_aload_n dX1_readNewName_69 1 rfl ?_
      refine x_get (v := .int (nI (nl.length))) dX1_readNewName_70 fX1_31 f169 (by decide) rfl ?_
      refine x_iload_n dX1_readNewName_73 2 rfl ?_
      refine x_iastN (i := (nl.length)) dX1_readNewName_74 f171 (by decide) (by omega) (by decide) (fun h174 a175 e176 l177 s178 => ?_)
      have f179 := (e176 6 (by decide)).trans f169
      have f180 := (e176 7 (by decide)).trans f170
      have f181 := (e176 12 (by decide)).trans a165
      have f182 := (e176 14 (by decide)).trans f172
      have sm183 := Sm.put sm173 e176 l177 s178 (by decide)
      refine x_aload_n dX1_readNewName_75 1 rfl ?_
      refine x_get (v := .ref 14) dX1_readNewName_76 fX1_28 f179 (by decide) rfl ?_
      refine x_aload_n dX1_readNewName_79 1 rfl ?_
      refine x_get (v := .int (nI (nl.length))) dX1_readNewName_80 fX1_31 f179 (by decide) rfl ?_
      refine x_iload_n dX1_readNewName_83 3 rfl ?_
      refine x_iastN (i := (nl.length)) dX1_readNewName_84 f182 (by decide) (by omega) (by decide) (fun h184 a185 e186 l187 s188 => ?_)
      have f189 := (e186 6 (by decide)).trans f179
      have f190 := (e186 7 (by decide)).trans f180
      have f191 := (e186 12 (by decide)).trans f181
      have f192 := (e186 13 (by decide)).trans a175
      have sm193 := Sm.put sm183 e186 l187 s188 (by decide)
      refine x_aload_n dX1_readNewName_85 1 rfl ?_
      refine x_dup dX1_readNewName_86 rfl ?_
      refine x_get (v := .int (nI (nl.length))) dX1_readNewName_87 fX1_31 f189 (by decide) rfl ?_
      refine x_iconst (v := 1) dX1_readNewName_90 (by decide) ?_
      refine x_iaddN (a := (nl.length)) (b := 1) dX1_readNewName_91 ?_
      refine x_put (fs2 := [.ref 7, .ref 12, .ref 13, .ref 14, .int (nI ((nl.length) + 1)), .int (nI (i + 1)), .int v, .int ft, .int fk]) dX1_readNewName_92 fX1_31 (Or.inl rfl) f189 (by decide) rfl rfl (Nat.le_of_ble_eq_true rfl) rfl (fun h194 a195 e196 l197 s198 => ?_)
      have f199 := (e196 7 (by decide)).trans f190
      have f200 := (e196 12 (by decide)).trans f191
      have f201 := (e196 13 (by decide)).trans f192
      have f202 := (e196 14 (by decide)).trans a185
      have sm203 := Sm.put sm193 e196 l197 s198 (by decide)
      refine x_iconst (v := 1) dX1_readNewName_95 (by decide) ?_
      exact x_zret dX1_readNewName_96 rfl rfl ⟨sm203, by rw [show newF tn tv nl i = none from (if_pos (by omega)).trans (if_neg hx)]; exact ⟨rfl, a195, NmC.add (by omega) hk3 hc8 hW hy f200 f201 f202⟩⟩
  | some fl104 =>
    rw [q103] at e102
    obtain ⟨e0, g106⟩ := e102
    cases e0
    refine x_if_ne (tgt := 11) dX1_readNewName_6 (by decide) (fun c_6 => absurd (by decide) c_6) (fun c_6 => ?_)
    refine x_iconst (v := 0) dX1_readNewName_9 (by decide) ?_
    exact x_zret dX1_readNewName_10 rfl rfl ⟨sm111, by rw [show newF tn tv nl i = some fl104 from new_tok q103]; exact ⟨rfl, _, g106, (sn0.tr sm105)⟩⟩

set_option maxRecDepth 100000 in
set_option maxHeartbeats 4000000 in
theorem c_firstS {G : GT} {h : List PE} {i : Nat} {x y : Int32} {nc v ft fk : Int32} (hx : x < y) (f6 : h[6]? = some (cO 1 [.ref 7, .ref 12, .ref 13, .ref 14, .int nc, .int (nI i), .int v, .int ft, .int fk])) : CT G mX1_readFirstWord 1 22 [.ref 6, .int x, .int y] h (fun o => Sm [6] h o.2 ∧ o.1 = some (.int 1) ∧ o.2[6]? = some (cO 1 [.ref 7, .ref 12, .ref 13, .ref 14, .int nc, .int (nI (i + 1)), .int v, .int ft, .int fk])) := by
  have sm0 : Sm [6] h h := Sm.rf
  show X (NF G) G mX1_readFirstWord 1 22 0 [(0, .ref 6), (1, .int x), (2, .int y)] [] h _
  refine x_iload_n dX1_readFirstWord_0 1 rfl ?_
  refine x_iload_n dX1_readFirstWord_1 2 rfl ?_
  refine x_icmp_lt (tgt := 15) dX1_readFirstWord_2 (by decide) (fun c_2 => ?_) (fun c_2 => absurd hx c_2)
  refine x_aload_n dX1_readFirstWord_15 0 rfl ?_
  refine x_dup dX1_readFirstWord_16 rfl ?_
  refine x_get (v := .int (nI i)) dX1_readFirstWord_17 fX1_35 f6 (by decide) rfl ?_
  refine x_iconst (v := 1) dX1_readFirstWord_20 (by decide) ?_
  refine x_iaddN (a := i) (b := 1) dX1_readFirstWord_21 ?_
  refine x_put (fs2 := [.ref 7, .ref 12, .ref 13, .ref 14, .int nc, .int (nI (i + 1)), .int v, .int ft, .int fk]) dX1_readFirstWord_22 fX1_35 (Or.inl rfl) f6 (by decide) rfl rfl (Nat.le_of_ble_eq_true rfl) rfl (fun h101 a102 e103 l104 s105 => ?_)
  have sm106 := Sm.put sm0 e103 l104 s105 (by decide)
  refine x_iconst (v := 1) dX1_readFirstWord_25 (by decide) ?_
  exact x_zret dX1_readFirstWord_26 rfl rfl ⟨sm106, rfl, a102⟩

set_option maxRecDepth 100000 in
set_option maxHeartbeats 4000000 in
theorem c_firstF {G : GT} {h : List PE} {i : Nat} {x y : Int32} {nc v ft fk : Int32} (hx : ¬ x < y) (f6 : h[6]? = some (cO 1 [.ref 7, .ref 12, .ref 13, .ref 14, .int nc, .int (nI i), .int v, .int ft, .int fk])) : CT G mX1_readFirstWord 1 22 [.ref 6, .int x, .int y] h (fun o => Sm [6] h o.2 ∧ o.1 = some (.int 0) ∧ o.2[6]? = some (cO 1 [.ref 7, .ref 12, .ref 13, .ref 14, .int nc, .int (nI i), .int v, .int (nI i), .int 4])) := by
  have sm0 : Sm [6] h h := Sm.rf
  show X (NF G) G mX1_readFirstWord 1 22 0 [(0, .ref 6), (1, .int x), (2, .int y)] [] h _
  refine x_iload_n dX1_readFirstWord_0 1 rfl ?_
  refine x_iload_n dX1_readFirstWord_1 2 rfl ?_
  refine x_icmp_lt (tgt := 15) dX1_readFirstWord_2 (by decide) (fun c_2 => absurd c_2 hx) (fun c_2 => ?_)
  refine x_aload_n dX1_readFirstWord_5 0 rfl ?_
  refine x_aload_n dX1_readFirstWord_6 0 rfl ?_
  refine x_get (v := .int (nI i)) dX1_readFirstWord_7 fX1_35 f6 (by decide) rfl ?_
  refine x_iconst (v := 4) dX1_readFirstWord_10 (by decide) ?_
  refine x_callV (rf' := 0) (rl' := 0) [.int (nI i), .int 4] [] dX1_readFirstWord_11 vX1_71 Y_X1_refuse f6 (by decide) rfl rfl (Nat.le_of_ble_eq_true rfl) (Nat.le_of_ble_eq_true rfl) (by decide) (by decide) (c_refuse f6) (fun r h101 e102 => ?_)
  obtain ⟨sm104, e0, g103⟩ := e102
  cases e0
  have sm104 : Sm [6] h h101 := sm104
  have sm105 := sm0.tr (sm104.wide (by decide))
  exact x_zret dX1_readFirstWord_14 rfl rfl ⟨sm105, rfl, g103⟩

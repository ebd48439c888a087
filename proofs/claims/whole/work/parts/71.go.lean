/-! ===== the model reads a BOOK ===== -/
/-- the model stands on the TOKEN i -/
def TkM (tn : Nat) (tv : Nat → Nat) (i : Nat) (too frm knd num sgn : Int32) (wrd : Int64) : Prop := frm = nI (plc' tn tv i) ∧ (kd tn tv i = 22 → knd = if tn ≤ 600 then 0 else 1) ∧ (¬ kd tn tv i = 22 → ∃ p, too = nI p ∧ p ≤ tn ∧ tkP tn tv (i + 1) = tkS tn tv p) ∧ (kd tn tv i ≤ 17 → knd = 2 ∧ wrd = lN (wn tn tv i)) ∧ (kd tn tv i = 18 → knd = 3 ∧ num = nI (nv tn tv i)) ∧ (kd tn tv i = 19 → knd = 4 ∧ sgn = 59) ∧ (kd tn tv i = 20 → knd = 4 ∧ sgn = 58) ∧ (kd tn tv i = 21 → knd = 1)
def MRd (h : List PE) (tn : Nat) (tv : Nat → Nat) (i : Nat) (x : Nat → Int32) (flt plc tld : Int32) : Prop := ∃ (too frm knd num sgn : Int32) (wrd : Int64), h[36]? = some (cO 12 (MO ((x 0)) ((x 1)) ((x 2)) ((x 3)) ((nI tn)) too frm knd num sgn flt plc wrd tld ((x 4)) ((x 5)) ((x 6)) ((x 7)) ((x 8)) ((x 9)) ((x 10)) ((x 11)))) ∧ TkM tn tv i too frm knd num sgn wrd
def MBd (h : List PE) (tn : Nat) (tv : Nat → Nat) (x : Nat → Int32) (f : Nat × Nat) : Prop := ∃ (too frm knd num sgn tld : Int32) (wrd : Int64), h[36]? = some (cO 12 (MO ((x 0)) ((x 1)) ((x 2)) ((x 3)) ((nI tn)) too frm knd num sgn ((nI (f.1))) ((nI (plc' tn tv f.2))) wrd tld ((x 4)) ((x 5)) ((x 6)) ((x 7)) ((x 8)) ((x 9)) ((x 10)) ((x 11))))

set_option maxRecDepth 100000 in
set_option maxHeartbeats 4000000 in
theorem c_isLetterM {G : GT} {h : List PE} {c : Nat} (hc : c < 256) : CT G mX12_isLetter 0 0 [.int (nI c)] h (fun o => o = (some (.int (if isLb c = true then 1 else 0)), h)) := by
  show X (NF G) G mX12_isLetter 0 0 0 [(0, .int (nI c))] [] h _
  refine x_iload_n dX12_isLetter_0 0 rfl ?_
  refine x_bipush (v := 97) dX12_isLetter_1 (by decide) ?_
  refine x_icmp_ltN (tgt := 16) (a := c) (b := 97) (by omega) (by omega) dX12_isLetter_3 (by decide) (fun c_3 => ?_) (fun c_3 => ?_)
  · refine x_iconst (v := 0) dX12_isLetter_16 (by decide) ?_
    exact x_zret dX12_isLetter_17 rfl rfl (by rw [if_neg (fun q => by have := isLb_iff.mp q; omega)])
  · refine x_iload_n dX12_isLetter_6 0 rfl ?_
    refine x_bipush (v := 122) dX12_isLetter_7 (by decide) ?_
    refine x_icmp_gtN (tgt := 16) (a := c) (b := 122) (by omega) (by omega) dX12_isLetter_9 (by decide) (fun c_9 => ?_) (fun c_9 => ?_)
    · refine x_iconst (v := 0) dX12_isLetter_16 (by decide) ?_
      exact x_zret dX12_isLetter_17 rfl rfl (by rw [if_neg (fun q => by have := isLb_iff.mp q; omega)])
    · refine x_iconst (v := 1) dX12_isLetter_12 (by decide) ?_
      refine x_goto (tgt := 17) dX12_isLetter_13 (by decide) ?_
      exact x_zret dX12_isLetter_17 rfl rfl (by rw [if_pos (isLb_iff.mpr ⟨by omega, by omega⟩)])

set_option maxRecDepth 100000 in
set_option maxHeartbeats 4000000 in
theorem c_isDigitM {G : GT} {h : List PE} {c : Nat} (hc : c < 256) : CT G mX12_isDigit 0 0 [.int (nI c)] h (fun o => o = (some (.int (if isDb c = true then 1 else 0)), h)) := by
  show X (NF G) G mX12_isDigit 0 0 0 [(0, .int (nI c))] [] h _
  refine x_iload_n dX12_isDigit_0 0 rfl ?_
  refine x_bipush (v := 48) dX12_isDigit_1 (by decide) ?_
  refine x_icmp_ltN (tgt := 16) (a := c) (b := 48) (by omega) (by omega) dX12_isDigit_3 (by decide) (fun c_3 => ?_) (fun c_3 => ?_)
  · refine x_iconst (v := 0) dX12_isDigit_16 (by decide) ?_
    exact x_zret dX12_isDigit_17 rfl rfl (by rw [if_neg (fun q => by have := isDb_iff.mp q; omega)])
  · refine x_iload_n dX12_isDigit_6 0 rfl ?_
    refine x_bipush (v := 57) dX12_isDigit_7 (by decide) ?_
    refine x_icmp_gtN (tgt := 16) (a := c) (b := 57) (by omega) (by omega) dX12_isDigit_9 (by decide) (fun c_9 => ?_) (fun c_9 => ?_)
    · refine x_iconst (v := 0) dX12_isDigit_16 (by decide) ?_
      exact x_zret dX12_isDigit_17 rfl rfl (by rw [if_neg (fun q => by have := isDb_iff.mp q; omega)])
    · refine x_iconst (v := 1) dX12_isDigit_12 (by decide) ?_
      refine x_goto (tgt := 17) dX12_isDigit_13 (by decide) ?_
      exact x_zret dX12_isDigit_17 rfl rfl (by rw [if_pos (isDb_iff.mpr ⟨by omega, by omega⟩)])

set_option maxRecDepth 100000 in
set_option maxHeartbeats 4000000 in
theorem c_byteAtM {G : GT} {h : List PE} {tn : Nat} {tv : Nat → Nat} {mtp : Nat → Int32} {flt plc tld too frm knd num sgn : Int32} {wrd : Int64} {x : Nat → Int32} {p : Nat} (hp : p ≤ 640) (htn : tn ≤ 640) (hmt : ∀ j, j < tn → mtp j = nI (tv j)) (f36 : h[36]? = some (cO 12 (MO ((x 0)) ((x 1)) ((x 2)) ((x 3)) ((nI tn)) too frm knd num sgn flt plc wrd tld ((x 4)) ((x 5)) ((x 6)) ((x 7)) ((x 8)) ((x 9)) ((x 10)) ((x 11))))) (f37 : h[37]? = some (cI 640 mtp)) : CT G mX12_byteAt 0 0 [.ref 36, .int (nI p)] h (fun o => o = (some (.int (nI (if p < tn then tv p else 0))), h)) := by
  show X (NF G) G mX12_byteAt 0 0 0 [(0, .ref 36), (1, .int (nI p))] [] h _
  refine x_iload_n dX12_byteAt_0 1 rfl ?_
  refine x_aload_n dX12_byteAt_1 0 rfl ?_
  refine x_get (v := .int (nI tn)) dX12_byteAt_2 fX12_72 f36 (by decide) rfl ?_
  refine x_icmp_geN (tgt := 17) (a := p) (b := tn) (by omega) (by omega) dX12_byteAt_5 (by decide) (fun c_5 => ?_) (fun c_5 => ?_)
  · refine x_iconst (v := 0) dX12_byteAt_17 (by decide) ?_
    exact x_iret dX12_byteAt_18 rfl (by rw [if_neg (by omega)]; rfl)
  · refine x_aload_n dX12_byteAt_8 0 rfl ?_
    refine x_get (v := .ref 37) dX12_byteAt_9 fX12_7 f36 (by decide) rfl ?_
    refine x_iload_n dX12_byteAt_12 1 rfl ?_
    refine x_ialdN (i := p) dX12_byteAt_13 f37 (by decide) (by omega) (by decide) ?_
    refine x_goto (tgt := 18) dX12_byteAt_14 (by decide) ?_
    exact x_iret dX12_byteAt_18 rfl (by rw [if_pos (by omega), hmt p (by omega)])

set_option maxRecDepth 100000 in
set_option maxHeartbeats 4000000 in
theorem l_goB {G : GT} {h0 : List PE} {tn p : Nat} {tv : Nat → Nat} {mtp : Nat → Int32} {flt plc tld frm knd num sgn : Int32} {wrd : Int64} {x : Nat → Int32} {Q : OT → Prop} (htn : tn ≤ 640) (hv : ∀ j, j < tn → tv j < 256) (hmt : ∀ j, j < tn → mtp j = nI (tv j)) (hp : p ≤ tn) (f37 : h0[37]? = some (cI 640 mtp)) (KX : ∀ h, Sm [36] h0 h → h[36]? = some (cO 12 (MO ((x 0)) ((x 1)) ((x 2)) ((x 3)) ((nI tn)) ((nI (tkS tn tv p))) frm knd num sgn flt plc wrd tld ((x 4)) ((x 5)) ((x 6)) ((x 7)) ((x 8)) ((x 9)) ((x 10)) ((x 11)))) → X (NF G) G mX12_go 1 21 52 [(0, .ref 36)] [] h Q) : ∀ (m k : Nat) (h : List PE), (rnN isBb tv (tn - p) p) - k = m → k ≤ (rnN isBb tv (tn - p) p) → Sm [36] h0 h → h[36]? = some (cO 12 (MO ((x 0)) ((x 1)) ((x 2)) ((x 3)) ((nI tn)) ((nI (p + k))) frm knd num sgn flt plc wrd tld ((x 4)) ((x 5)) ((x 6)) ((x 7)) ((x 8)) ((x 9)) ((x 10)) ((x 11)))) → X (NF G) G mX12_go 1 21 0 [(0, .ref 36)] [] h Q := by
  obtain ⟨n1, n2, n3⟩ := rnN_spec (g := isBb) (tv := tv) (tn - p) p
  have eS : tkS tn tv p = p + (rnN isBb tv (tn - p) p) := rfl
  intro m
  induction m with
  | zero =>
    intro k h hm hk sm f36
    have ek : k = (rnN isBb tv (tn - p) p) := by omega
    have g37 := sm.at f37 (by decide)
    rw [ek] at f36
    refine x_aload_n dX12_go_0 0 rfl ?_
    refine x_get (v := .int (nI (p + (rnN isBb tv (tn - p) p)))) dX12_go_1 fX12_75 f36 (by decide) rfl ?_
    refine x_aload_n dX12_go_4 0 rfl ?_
    refine x_get (v := .int (nI tn)) dX12_go_5 fX12_72 f36 (by decide) rfl ?_
    refine x_icmp_geN (tgt := 52) (a := (p + (rnN isBb tv (tn - p) p))) (b := tn) (by omega) (by omega) dX12_go_8 (by decide) (fun c_8 => ?_) (fun c_8 => ?_)
    · exact KX h sm f36
    · refine x_aload_n dX12_go_11 0 rfl ?_
      refine x_get (v := .ref 37) dX12_go_12 fX12_7 f36 (by decide) rfl ?_
      refine x_aload_n dX12_go_15 0 rfl ?_
      refine x_get (v := .int (nI (p + (rnN isBb tv (tn - p) p)))) dX12_go_16 fX12_75 f36 (by decide) rfl ?_
      refine x_ialdN (i := (p + (rnN isBb tv (tn - p) p))) dX12_go_19 g37 (by decide) (by omega) (by decide) ?_
      rw [hmt (p + (rnN isBb tv (tn - p) p)) (by omega)]
      refine x_bipush (v := 32) dX12_go_20 (by decide) ?_
      refine x_icmp_eq (tgt := 39) dX12_go_22 (by decide) (fun c_22 => ?_) (fun c_22 => ?_)
      · exact absurd (isBb_iff.mpr (Or.inl ((nI_eq (b := 32) (by have := hv (p + (rnN isBb tv (tn - p) p)) (by omega); omega) (by decide)).mp c_22))) (by rw [n3 (by omega)]; decide)
      · refine x_aload_n dX12_go_25 0 rfl ?_
        refine x_get (v := .ref 37) dX12_go_26 fX12_7 f36 (by decide) rfl ?_
        refine x_aload_n dX12_go_29 0 rfl ?_
        refine x_get (v := .int (nI (p + (rnN isBb tv (tn - p) p)))) dX12_go_30 fX12_75 f36 (by decide) rfl ?_
        refine x_ialdN (i := (p + (rnN isBb tv (tn - p) p))) dX12_go_33 g37 (by decide) (by omega) (by decide) ?_
        rw [hmt (p + (rnN isBb tv (tn - p) p)) (by omega)]
        refine x_bipush (v := 10) dX12_go_34 (by decide) ?_
        refine x_icmp_ne (tgt := 52) dX12_go_36 (by decide) (fun c_36 => ?_) (fun c_36 => ?_)
        · exact KX h sm f36
        · exact absurd (isBb_iff.mpr (Or.inr ((nI_eq (b := 10) (by have := hv (p + (rnN isBb tv (tn - p) p)) (by omega); omega) (by decide)).mp c_36))) (by rw [n3 (by omega)]; decide)
  | succ m ih =>
    intro k h hm hk sm f36
    have hb := n2 k (by omega)
    have g37 := sm.at f37 (by decide)
    refine x_aload_n dX12_go_0 0 rfl ?_
    refine x_get (v := .int (nI (p + k))) dX12_go_1 fX12_75 f36 (by decide) rfl ?_
    refine x_aload_n dX12_go_4 0 rfl ?_
    refine x_get (v := .int (nI tn)) dX12_go_5 fX12_72 f36 (by decide) rfl ?_
    refine x_icmp_geN (tgt := 52) (a := (p + k)) (b := tn) (by omega) (by omega) dX12_go_8 (by decide) (fun c_8 => absurd c_8 (by omega)) (fun c_8 => ?_)
    refine x_aload_n dX12_go_11 0 rfl ?_
    refine x_get (v := .ref 37) dX12_go_12 fX12_7 f36 (by decide) rfl ?_
    refine x_aload_n dX12_go_15 0 rfl ?_
    refine x_get (v := .int (nI (p + k))) dX12_go_16 fX12_75 f36 (by decide) rfl ?_
    refine x_ialdN (i := (p + k)) dX12_go_19 g37 (by decide) (by omega) (by decide) ?_
    rw [hmt (p + k) (by omega)]
    refine x_bipush (v := 32) dX12_go_20 (by decide) ?_
    refine x_icmp_eq (tgt := 39) dX12_go_22 (by decide) (fun c_22 => ?_) (fun c_22 => ?_)
    · refine x_aload_n dX12_go_39 0 rfl ?_
      refine x_dup dX12_go_40 rfl ?_
      refine x_get (v := .int (nI (p + k))) dX12_go_41 fX12_75 f36 (by decide) rfl ?_
      refine x_iconst (v := 1) dX12_go_44 (by decide) ?_
      refine x_iaddN (a := (p + k)) (b := 1) dX12_go_45 ?_
      refine x_put (fs2 := (MO ((x 0)) ((x 1)) ((x 2)) ((x 3)) ((nI tn)) ((nI ((p + k) + 1))) frm knd num sgn flt plc wrd tld ((x 4)) ((x 5)) ((x 6)) ((x 7)) ((x 8)) ((x 9)) ((x 10)) ((x 11)))) dX12_go_46 fX12_75 (Or.inl rfl) f36 (by decide) rfl rfl (Nat.le_of_ble_eq_true rfl) rfl (fun h101 a102 e103 l104 s105 => ?_)
      have f106 := (e103 37 (by decide)).trans g37
      have sm107 := Sm.put sm e103 l104 s105 (by decide)
      refine x_goto (tgt := 0) dX12_go_49 (by decide) ?_
      exact ih (k + 1) h101 (by omega) (by omega) sm107 a102
    · refine x_aload_n dX12_go_25 0 rfl ?_
      refine x_get (v := .ref 37) dX12_go_26 fX12_7 f36 (by decide) rfl ?_
      refine x_aload_n dX12_go_29 0 rfl ?_
      refine x_get (v := .int (nI (p + k))) dX12_go_30 fX12_75 f36 (by decide) rfl ?_
      refine x_ialdN (i := (p + k)) dX12_go_33 g37 (by decide) (by omega) (by decide) ?_
      rw [hmt (p + k) (by omega)]
      refine x_bipush (v := 10) dX12_go_34 (by decide) ?_
      refine x_icmp_ne (tgt := 52) dX12_go_36 (by decide) (fun c_36 => ?_) (fun c_36 => ?_)
      · exact absurd (isBb_iff.mp hb) (fun z => z.elim (fun z => c_22 (by rw [z]; rfl)) (fun z => c_36 (by rw [z]; rfl)))
      · refine x_aload_n dX12_go_39 0 rfl ?_
        refine x_dup dX12_go_40 rfl ?_
        refine x_get (v := .int (nI (p + k))) dX12_go_41 fX12_75 f36 (by decide) rfl ?_
        refine x_iconst (v := 1) dX12_go_44 (by decide) ?_
        refine x_iaddN (a := (p + k)) (b := 1) dX12_go_45 ?_
        refine x_put (fs2 := (MO ((x 0)) ((x 1)) ((x 2)) ((x 3)) ((nI tn)) ((nI ((p + k) + 1))) frm knd num sgn flt plc wrd tld ((x 4)) ((x 5)) ((x 6)) ((x 7)) ((x 8)) ((x 9)) ((x 10)) ((x 11)))) dX12_go_46 fX12_75 (Or.inl rfl) f36 (by decide) rfl rfl (Nat.le_of_ble_eq_true rfl) rfl (fun h108 a109 e110 l111 s112 => ?_)
        have f113 := (e110 37 (by decide)).trans g37
        have sm114 := Sm.put sm e110 l111 s112 (by decide)
        refine x_goto (tgt := 0) dX12_go_49 (by decide) ?_
        exact ih (k + 1) h108 (by omega) (by omega) sm114 a109

set_option maxRecDepth 100000 in
set_option maxHeartbeats 4000000 in
theorem l_goR1 {G : GT} {h0 : List PE} {tn q : Nat} {tv : Nat → Nat} {mtp : Nat → Int32} {flt plc tld knd sgn : Int32} {x : Nat → Int32} {Q : OT → Prop} (htn : tn ≤ 640) (hv : ∀ j, j < tn → tv j < 256) (hmt : ∀ j, j < tn → mtp j = nI (tv j)) (hq : q < tn) (ha : isAb (tv q) = true) (hL : isLb (tv q) = true) (f37 : h0[37]? = some (cI 640 mtp)) (KX : ∀ h, Sm [36] h0 h → h[36]? = some (cO 12 (MO ((x 0)) ((x 1)) ((x 2)) ((x 3)) ((nI tn)) ((nI (q + (tkN tn tv q)))) ((nI q)) knd ((n10F (tkf tv q) (tkN tn tv q))) sgn flt plc ((w27F (tkf tv q) (tkN tn tv q))) tld ((x 4)) ((x 5)) ((x 6)) ((x 7)) ((x 8)) ((x 9)) ((x 10)) ((x 11)))) → X (NF G) G mX12_go 1 21 323 [(3, .int (if gdF (tkf tv q) (tkN tn tv q) = true then 1 else 0)), (2, .int 1), (0, .ref 36)] [] h Q) : ∀ (m k : Nat) (h : List PE), (tkN tn tv q) - k = m → k ≤ (tkN tn tv q) → Sm [36] h0 h → h[36]? = some (cO 12 (MO ((x 0)) ((x 1)) ((x 2)) ((x 3)) ((nI tn)) ((nI (q + k))) ((nI q)) knd ((n10F (tkf tv q) k)) sgn flt plc ((w27F (tkf tv q) k)) tld ((x 4)) ((x 5)) ((x 6)) ((x 7)) ((x 8)) ((x 9)) ((x 10)) ((x 11)))) → X (NF G) G mX12_go 1 21 188 [(3, .int (if gdF (tkf tv q) k = true then 1 else 0)), (2, .int 1), (0, .ref 36)] [] h Q := by
  obtain ⟨n1, n2, n3, n4⟩ := tkN_spec hq ha
  intro m
  induction m with
  | zero =>
    intro k h hm hk sm f36
    have ek : k = (tkN tn tv q) := by omega
    have g37 := sm.at f37 (by decide)
    rw [ek] at f36 ⊢
    have hc : isLb (if q + (tkN tn tv q) < tn then tv (q + (tkN tn tv q)) else 0) = false ∧ isDb (if q + (tkN tn tv q) < tn then tv (q + (tkN tn tv q)) else 0) = false ∧ (if q + (tkN tn tv q) < tn then tv (q + (tkN tn tv q)) else 0) < 256 := by
      by_cases e : q + (tkN tn tv q) < tn
      · rw [if_pos e]
        have n5 := n4 e
        unfold isAb at n5
        exact ⟨(Bool.or_eq_false_iff.mp n5).1, (Bool.or_eq_false_iff.mp n5).2, hv _ e⟩
      · rw [if_neg e]; decide
    refine x_aload_n dX12_go_188 2 rfl ?_
    refine x_aload_n dX12_go_189 2 rfl ?_
    refine x_get (v := .int (nI (q + (tkN tn tv q)))) dX12_go_190 fX12_75 f36 (by decide) rfl ?_
    refine x_callV (rf' := 0) (rl' := 0) [.int (nI (q + (tkN tn tv q)))] [] dX12_go_193 vX12_101 Y_X12_byteAt f36 (by decide) rfl rfl (Nat.le_of_ble_eq_true rfl) (Nat.le_of_ble_eq_true rfl) (by decide) (by decide) (c_byteAtM (tv := tv) (by omega) htn hmt f36 g37) (fun _ _ e101 => ?_)
    cases e101
    refine x_callS (rf' := 0) (rl' := 0) [.int (nI (if q + (tkN tn tv q) < tn then tv (q + (tkN tn tv q)) else 0))] [] dX12_go_196 vX12_84 Y_X12_isLetter rfl rfl (Nat.le_of_ble_eq_true rfl) (Nat.le_of_ble_eq_true rfl) (by decide) (by decide) (c_isLetterM hc.2.2) (fun _ _ e102 => ?_)
    cases e102
    rw [show (if isLb ((if q + (tkN tn tv q) < tn then tv (q + (tkN tn tv q)) else 0)) = true then (1 : Int32) else 0) = 0 from if_neg (by rw [hc.1]; decide)]
    refine x_if_ne (tgt := 216) dX12_go_199 (by decide) (fun c_199 => absurd (by decide) c_199) (fun c_199 => ?_)
    refine x_aload_n dX12_go_202 2 rfl ?_
    refine x_aload_n dX12_go_203 2 rfl ?_
    refine x_get (v := .int (nI (q + (tkN tn tv q)))) dX12_go_204 fX12_75 f36 (by decide) rfl ?_
    refine x_callV (rf' := 0) (rl' := 0) [.int (nI (q + (tkN tn tv q)))] [] dX12_go_207 vX12_101 Y_X12_byteAt f36 (by decide) rfl rfl (Nat.le_of_ble_eq_true rfl) (Nat.le_of_ble_eq_true rfl) (by decide) (by decide) (c_byteAtM (tv := tv) (by omega) htn hmt f36 g37) (fun _ _ e103 => ?_)
    cases e103
    refine x_callS (rf' := 0) (rl' := 0) [.int (nI (if q + (tkN tn tv q) < tn then tv (q + (tkN tn tv q)) else 0))] [] dX12_go_210 vX12_88 Y_X12_isDigit rfl rfl (Nat.le_of_ble_eq_true rfl) (Nat.le_of_ble_eq_true rfl) (by decide) (by decide) (c_isDigitM hc.2.2) (fun _ _ e104 => ?_)
    cases e104
    rw [show (if isDb ((if q + (tkN tn tv q) < tn then tv (q + (tkN tn tv q)) else 0)) = true then (1 : Int32) else 0) = 0 from if_neg (by rw [hc.2.1]; decide)]
    refine x_if_eq (tgt := 323) dX12_go_213 (by decide) (fun c_213 => ?_) (fun c_213 => absurd (by decide) c_213)
    refine x_perm [0, 1, 2] rfl ?_
    exact KX h sm f36
  | succ m ih =>
    intro k h hm hk sm f36
    have hk2 := n3 k (by omega)
    have g37 := sm.at f37 (by decide)
    have hvk := hv (q + k) (by omega)
    have e9 : (if q + k < tn then tv (q + k) else 0) = tv (q + k) := if_pos (by omega)
    by_cases hl : isLb (tv (q + k)) = true
    · skip
      by_cases hg : gdF (tkf tv q) k = true
      · rw [if_pos hg]
        refine x_aload_n dX12_go_188 2 rfl ?_
        refine x_aload_n dX12_go_189 2 rfl ?_
        refine x_get (v := .int (nI (q + k))) dX12_go_190 fX12_75 f36 (by decide) rfl ?_
        refine x_callV (rf' := 0) (rl' := 0) [.int (nI (q + k))] [] dX12_go_193 vX12_101 Y_X12_byteAt f36 (by decide) rfl rfl (Nat.le_of_ble_eq_true rfl) (Nat.le_of_ble_eq_true rfl) (by decide) (by decide) (c_byteAtM (tv := tv) (by omega) htn hmt f36 g37) (fun _ _ e101 => ?_)
        cases e101
        rw [e9]
        refine x_callS (rf' := 0) (rl' := 0) [.int (nI (tv (q + k)))] [] dX12_go_196 vX12_84 Y_X12_isLetter rfl rfl (Nat.le_of_ble_eq_true rfl) (Nat.le_of_ble_eq_true rfl) (by decide) (by decide) (c_isLetterM hvk) (fun _ _ e102 => ?_)
        cases e102
        rw [show (if isLb ((tv (q + k))) = true then (1 : Int32) else 0) = 1 from if_pos hl]
        refine x_if_ne (tgt := 216) dX12_go_199 (by decide) (fun c_199 => ?_) (fun c_199 => absurd c_199 (by decide))
        refine x_aload_n dX12_go_216 2 rfl ?_
        refine x_get (v := .ref 37) dX12_go_217 fX12_7 f36 (by decide) rfl ?_
        refine x_aload_n dX12_go_220 2 rfl ?_
        refine x_get (v := .int (nI (q + k))) dX12_go_221 fX12_75 f36 (by decide) rfl ?_
        refine x_ialdN (i := (q + k)) dX12_go_224 g37 (by decide) (by omega) (by decide) ?_
        rw [hmt (q + k) (by omega)]
        refine x_istore (lv2 := [(4, .int (nI (tv (q + k)))), (3, .int 1), (2, .int 1), (0, .ref 36)]) dX12_go_225 (by decide) rfl ?_
        refine x_iload_n dX12_go_227 1 rfl ?_
        refine x_if_eq (tgt := 244) dX12_go_228 (by decide) (fun c_228 => absurd c_228 (by decide)) (fun c_228 => ?_)
        refine x_iload dX12_go_231 0 rfl ?_
        refine x_callS (rf' := 0) (rl' := 0) [.int (nI (tv (q + k)))] [] dX12_go_233 vX12_84 Y_X12_isLetter rfl rfl (Nat.le_of_ble_eq_true rfl) (Nat.le_of_ble_eq_true rfl) (by decide) (by decide) (c_isLetterM hvk) (fun _ _ e103 => ?_)
        cases e103
        rw [show (if isLb ((tv (q + k))) = true then (1 : Int32) else 0) = 1 from if_pos hl]
        refine x_iload_n dX12_go_236 2 rfl ?_
        refine x_icmp_ne (tgt := 244) dX12_go_237 (by decide) (fun c_237 => absurd (by decide) c_237) (fun c_237 => ?_)
        refine x_iconst (v := 1) dX12_go_240 (by decide) ?_
        refine x_goto (tgt := 245) dX12_go_241 (by decide) ?_
        refine x_istore_n (lv2 := [(3, .int 1), (4, .int (nI (tv (q + k)))), (2, .int 1), (0, .ref 36)]) dX12_go_245 (by decide) rfl ?_
        refine x_aload_n dX12_go_246 3 rfl ?_
        refine x_get (v := .int (nI (q + k))) dX12_go_247 fX12_75 f36 (by decide) rfl ?_
        refine x_aload_n dX12_go_250 3 rfl ?_
        refine x_get (v := .int (nI q)) dX12_go_251 fX12_78 f36 (by decide) rfl ?_
        refine x_isubN (a := (q + k)) (b := q) (by omega) dX12_go_254 ?_
        refine x_bipush (v := 8) dX12_go_255 (by decide) ?_
        refine x_icmp_geN (tgt := 280) (a := ((q + k) - q)) (b := 8) (by omega) (by omega) dX12_go_257 (by decide) (fun c_257 => ?_) (fun c_257 => ?_)
        · refine x_aload_n dX12_go_280 3 rfl ?_
          refine x_get (v := .int (nI (q + k))) dX12_go_281 fX12_75 f36 (by decide) rfl ?_
          refine x_aload_n dX12_go_284 3 rfl ?_
          refine x_get (v := .int (nI q)) dX12_go_285 fX12_78 f36 (by decide) rfl ?_
          refine x_isubN (a := (q + k)) (b := q) (by omega) dX12_go_288 ?_
          refine x_iconst (v := 5) dX12_go_289 (by decide) ?_
          refine x_icmp_geN (tgt := 310) (a := ((q + k) - q)) (b := 5) (by omega) (by omega) dX12_go_290 (by decide) (fun c_290 => ?_) (fun c_290 => ?_)
          · refine x_aload_n dX12_go_310 3 rfl ?_
            refine x_dup dX12_go_311 rfl ?_
            refine x_get (v := .int (nI (q + k))) dX12_go_312 fX12_75 f36 (by decide) rfl ?_
            refine x_iconst (v := 1) dX12_go_315 (by decide) ?_
            refine x_iaddN (a := (q + k)) (b := 1) dX12_go_316 ?_
            refine x_put (fs2 := (MO ((x 0)) ((x 1)) ((x 2)) ((x 3)) ((nI tn)) ((nI ((q + k) + 1))) ((nI q)) knd ((n10F (tkf tv q) k)) sgn flt plc ((w27F (tkf tv q) k)) tld ((x 4)) ((x 5)) ((x 6)) ((x 7)) ((x 8)) ((x 9)) ((x 10)) ((x 11)))) dX12_go_317 fX12_75 (Or.inl rfl) f36 (by decide) rfl rfl (Nat.le_of_ble_eq_true rfl) rfl (fun h104 a105 e106 l107 s108 => ?_)
            have f109 := (e106 37 (by decide)).trans g37
            have sm110 := Sm.put sm e106 l107 s108 (by decide)
            refine x_goto (tgt := 188) dX12_go_320 (by decide) ?_
            have I := ih (k + 1) h104 (by omega) (by omega) sm110 (by rw [show w27F (tkf tv q) (k + 1) = (w27F (tkf tv q) k) by rw [w27F, if_neg (by omega)], show n10F (tkf tv q) (k + 1) = (n10F (tkf tv q) k) by rw [n10F, if_neg (by omega)]]; exact a105)
            rw [show gdF (tkf tv q) (k + 1) = true by rw [gdF, show isLb ((tkf tv q) k) = true from hl, show isLb ((tkf tv q) 0) = true from hL, hg]; rfl] at I
            refine x_perm (lv2 := [(3, .int (if true = true then 1 else 0)), (2, .int 1), (0, .ref 36)]) [0, 2, 3] rfl ?_
            exact I
          · refine x_aload_n dX12_go_293 3 rfl ?_
            refine x_bipush (v := 10) dX12_go_294 (by decide) ?_
            refine x_aload_n dX12_go_296 3 rfl ?_
            refine x_get (v := .int (n10F (tkf tv q) k)) dX12_go_297 fX12_98 f36 (by decide) rfl ?_
            refine x_imul dX12_go_300 ?_
            refine x_iload dX12_go_301 1 rfl ?_
            refine x_iadd dX12_go_303 ?_
            refine x_bipush (v := 48) dX12_go_304 (by decide) ?_
            refine x_isub dX12_go_306 ?_
            refine x_put (fs2 := (MO ((x 0)) ((x 1)) ((x 2)) ((x 3)) ((nI tn)) ((nI (q + k))) ((nI q)) knd ((((10 * (n10F (tkf tv q) k)) + (nI (tv (q + k)))) - 48)) sgn flt plc ((w27F (tkf tv q) k)) tld ((x 4)) ((x 5)) ((x 6)) ((x 7)) ((x 8)) ((x 9)) ((x 10)) ((x 11)))) dX12_go_307 fX12_98 (Or.inl rfl) f36 (by decide) rfl rfl (Nat.le_of_ble_eq_true rfl) rfl (fun h111 a112 e113 l114 s115 => ?_)
            have f116 := (e113 37 (by decide)).trans g37
            have sm117 := Sm.put sm e113 l114 s115 (by decide)
            refine x_aload_n dX12_go_310 3 rfl ?_
            refine x_dup dX12_go_311 rfl ?_
            refine x_get (v := .int (nI (q + k))) dX12_go_312 fX12_75 a112 (by decide) rfl ?_
            refine x_iconst (v := 1) dX12_go_315 (by decide) ?_
            refine x_iaddN (a := (q + k)) (b := 1) dX12_go_316 ?_
            refine x_put (fs2 := (MO ((x 0)) ((x 1)) ((x 2)) ((x 3)) ((nI tn)) ((nI ((q + k) + 1))) ((nI q)) knd ((((10 * (n10F (tkf tv q) k)) + (nI (tv (q + k)))) - 48)) sgn flt plc ((w27F (tkf tv q) k)) tld ((x 4)) ((x 5)) ((x 6)) ((x 7)) ((x 8)) ((x 9)) ((x 10)) ((x 11)))) dX12_go_317 fX12_75 (Or.inl rfl) a112 (by decide) rfl rfl (Nat.le_of_ble_eq_true rfl) rfl (fun h118 a119 e120 l121 s122 => ?_)
            have f123 := (e120 37 (by decide)).trans f116
            have sm124 := Sm.put sm117 e120 l121 s122 (by decide)
            refine x_goto (tgt := 188) dX12_go_320 (by decide) ?_
            have I := ih (k + 1) h118 (by omega) (by omega) sm124 (by rw [show w27F (tkf tv q) (k + 1) = (w27F (tkf tv q) k) by rw [w27F, if_neg (by omega)], show n10F (tkf tv q) (k + 1) = (((10 * (n10F (tkf tv q) k)) + (nI (tv (q + k)))) - 48) by rw [n10F, if_pos (by omega)]]; exact a119)
            rw [show gdF (tkf tv q) (k + 1) = true by rw [gdF, show isLb ((tkf tv q) k) = true from hl, show isLb ((tkf tv q) 0) = true from hL, hg]; rfl] at I
            refine x_perm (lv2 := [(3, .int (if true = true then 1 else 0)), (2, .int 1), (0, .ref 36)]) [0, 2, 3] rfl ?_
            exact I
        · refine x_aload_n dX12_go_260 3 rfl ?_
          refine x_ldc2 (v := 27) dX12_go_261 kX12_105 ?_
          refine x_aload_n dX12_go_264 3 rfl ?_
          refine x_get (v := .long (w27F (tkf tv q) k)) dX12_go_265 fX12_94 f36 (by decide) rfl ?_
          refine x_lmul dX12_go_268 ?_
          refine x_iload dX12_go_269 1 rfl ?_
          refine x_i2l dX12_go_271 ?_
          refine x_ladd dX12_go_272 ?_
          refine x_ldc2 (v := 96) dX12_go_273 kX12_107 ?_
          refine x_lsub dX12_go_276 ?_
          refine x_put (fs2 := (MO ((x 0)) ((x 1)) ((x 2)) ((x 3)) ((nI tn)) ((nI (q + k))) ((nI q)) knd ((n10F (tkf tv q) k)) sgn flt plc ((((27 * (w27F (tkf tv q) k)) + ((nI (tv (q + k)))).toInt64) - 96)) tld ((x 4)) ((x 5)) ((x 6)) ((x 7)) ((x 8)) ((x 9)) ((x 10)) ((x 11)))) dX12_go_277 fX12_94 (Or.inl rfl) f36 (by decide) rfl rfl (Nat.le_of_ble_eq_true rfl) rfl (fun h125 a126 e127 l128 s129 => ?_)
          have f130 := (e127 37 (by decide)).trans g37
          have sm131 := Sm.put sm e127 l128 s129 (by decide)
          refine x_aload_n dX12_go_280 3 rfl ?_
          refine x_get (v := .int (nI (q + k))) dX12_go_281 fX12_75 a126 (by decide) rfl ?_
          refine x_aload_n dX12_go_284 3 rfl ?_
          refine x_get (v := .int (nI q)) dX12_go_285 fX12_78 a126 (by decide) rfl ?_
          refine x_isubN (a := (q + k)) (b := q) (by omega) dX12_go_288 ?_
          refine x_iconst (v := 5) dX12_go_289 (by decide) ?_
          refine x_icmp_geN (tgt := 310) (a := ((q + k) - q)) (b := 5) (by omega) (by omega) dX12_go_290 (by decide) (fun c_290 => ?_) (fun c_290 => ?_)
          · refine x_aload_n dX12_go_310 3 rfl ?_
            refine x_dup dX12_go_311 rfl ?_
            refine x_get (v := .int (nI (q + k))) dX12_go_312 fX12_75 a126 (by decide) rfl ?_
            refine x_iconst (v := 1) dX12_go_315 (by decide) ?_
            refine x_iaddN (a := (q + k)) (b := 1) dX12_go_316 ?_
            refine x_put (fs2 := (MO ((x 0)) ((x 1)) ((x 2)) ((x 3)) ((nI tn)) ((nI ((q + k) + 1))) ((nI q)) knd ((n10F (tkf tv q) k)) sgn flt plc ((((27 * (w27F (tkf tv q) k)) + ((nI (tv (q + k)))).toInt64) - 96)) tld ((x 4)) ((x 5)) ((x 6)) ((x 7)) ((x 8)) ((x 9)) ((x 10)) ((x 11)))) dX12_go_317 fX12_75 (Or.inl rfl) a126 (by decide) rfl rfl (Nat.le_of_ble_eq_true rfl) rfl (fun h132 a133 e134 l135 s136 => ?_)
            have f137 := (e134 37 (by decide)).trans f130
            have sm138 := Sm.put sm131 e134 l135 s136 (by decide)
            refine x_goto (tgt := 188) dX12_go_320 (by decide) ?_
            have I := ih (k + 1) h132 (by omega) (by omega) sm138 (by rw [show w27F (tkf tv q) (k + 1) = (((27 * (w27F (tkf tv q) k)) + ((nI (tv (q + k)))).toInt64) - 96) by rw [w27F, if_pos (by omega)], show n10F (tkf tv q) (k + 1) = (n10F (tkf tv q) k) by rw [n10F, if_neg (by omega)]]; exact a133)
            rw [show gdF (tkf tv q) (k + 1) = true by rw [gdF, show isLb ((tkf tv q) k) = true from hl, show isLb ((tkf tv q) 0) = true from hL, hg]; rfl] at I
            refine x_perm (lv2 := [(3, .int (if true = true then 1 else 0)), (2, .int 1), (0, .ref 36)]) [0, 2, 3] rfl ?_
            exact I
          · refine x_aload_n dX12_go_293 3 rfl ?_
            refine x_bipush (v := 10) dX12_go_294 (by decide) ?_
            refine x_aload_n dX12_go_296 3 rfl ?_
            refine x_get (v := .int (n10F (tkf tv q) k)) dX12_go_297 fX12_98 a126 (by decide) rfl ?_
            refine x_imul dX12_go_300 ?_
            refine x_iload dX12_go_301 1 rfl ?_
            refine x_iadd dX12_go_303 ?_
            refine x_bipush (v := 48) dX12_go_304 (by decide) ?_
            refine x_isub dX12_go_306 ?_
            refine x_put (fs2 := (MO ((x 0)) ((x 1)) ((x 2)) ((x 3)) ((nI tn)) ((nI (q + k))) ((nI q)) knd ((((10 * (n10F (tkf tv q) k)) + (nI (tv (q + k)))) - 48)) sgn flt plc ((((27 * (w27F (tkf tv q) k)) + ((nI (tv (q + k)))).toInt64) - 96)) tld ((x 4)) ((x 5)) ((x 6)) ((x 7)) ((x 8)) ((x 9)) ((x 10)) ((x 11)))) dX12_go_307 fX12_98 (Or.inl rfl) a126 (by decide) rfl rfl (Nat.le_of_ble_eq_true rfl) rfl (fun h139 a140 e141 l142 s143 => ?_)
            have f144 := (e141 37 (by decide)).trans f130
            have sm145 := Sm.put sm131 e141 l142 s143 (by decide)
            refine x_aload_n dX12_go_310 3 rfl ?_
            refine x_dup dX12_go_311 rfl ?_
            refine x_get (v := .int (nI (q + k))) dX12_go_312 fX12_75 a140 (by decide) rfl ?_
            refine x_iconst (v := 1) dX12_go_315 (by decide) ?_
            refine x_iaddN (a := (q + k)) (b := 1) dX12_go_316 ?_
            refine x_put (fs2 := (MO ((x 0)) ((x 1)) ((x 2)) ((x 3)) ((nI tn)) ((nI ((q + k) + 1))) ((nI q)) knd ((((10 * (n10F (tkf tv q) k)) + (nI (tv (q + k)))) - 48)) sgn flt plc ((((27 * (w27F (tkf tv q) k)) + ((nI (tv (q + k)))).toInt64) - 96)) tld ((x 4)) ((x 5)) ((x 6)) ((x 7)) ((x 8)) ((x 9)) ((x 10)) ((x 11)))) dX12_go_317 fX12_75 (Or.inl rfl) a140 (by decide) rfl rfl (Nat.le_of_ble_eq_true rfl) rfl (fun h146 a147 e148 l149 s150 => ?_)
            have f151 := (e148 37 (by decide)).trans f144
            have sm152 := Sm.put sm145 e148 l149 s150 (by decide)
            refine x_goto (tgt := 188) dX12_go_320 (by decide) ?_
            have I := ih (k + 1) h146 (by omega) (by omega) sm152 (by rw [show w27F (tkf tv q) (k + 1) = (((27 * (w27F (tkf tv q) k)) + ((nI (tv (q + k)))).toInt64) - 96) by rw [w27F, if_pos (by omega)], show n10F (tkf tv q) (k + 1) = (((10 * (n10F (tkf tv q) k)) + (nI (tv (q + k)))) - 48) by rw [n10F, if_pos (by omega)]]; exact a147)
            rw [show gdF (tkf tv q) (k + 1) = true by rw [gdF, show isLb ((tkf tv q) k) = true from hl, show isLb ((tkf tv q) 0) = true from hL, hg]; rfl] at I
            refine x_perm (lv2 := [(3, .int (if true = true then 1 else 0)), (2, .int 1), (0, .ref 36)]) [0, 2, 3] rfl ?_
            exact I
      · rw [if_neg hg]
        refine x_aload_n dX12_go_188 2 rfl ?_
        refine x_aload_n dX12_go_189 2 rfl ?_
        refine x_get (v := .int (nI (q + k))) dX12_go_190 fX12_75 f36 (by decide) rfl ?_
        refine x_callV (rf' := 0) (rl' := 0) [.int (nI (q + k))] [] dX12_go_193 vX12_101 Y_X12_byteAt f36 (by decide) rfl rfl (Nat.le_of_ble_eq_true rfl) (Nat.le_of_ble_eq_true rfl) (by decide) (by decide) (c_byteAtM (tv := tv) (by omega) htn hmt f36 g37) (fun _ _ e101 => ?_)
        cases e101
        rw [e9]
        refine x_callS (rf' := 0) (rl' := 0) [.int (nI (tv (q + k)))] [] dX12_go_196 vX12_84 Y_X12_isLetter rfl rfl (Nat.le_of_ble_eq_true rfl) (Nat.le_of_ble_eq_true rfl) (by decide) (by decide) (c_isLetterM hvk) (fun _ _ e102 => ?_)
        cases e102
        rw [show (if isLb ((tv (q + k))) = true then (1 : Int32) else 0) = 1 from if_pos hl]
        refine x_if_ne (tgt := 216) dX12_go_199 (by decide) (fun c_199 => ?_) (fun c_199 => absurd c_199 (by decide))
        refine x_aload_n dX12_go_216 2 rfl ?_
        refine x_get (v := .ref 37) dX12_go_217 fX12_7 f36 (by decide) rfl ?_
        refine x_aload_n dX12_go_220 2 rfl ?_
        refine x_get (v := .int (nI (q + k))) dX12_go_221 fX12_75 f36 (by decide) rfl ?_
        refine x_ialdN (i := (q + k)) dX12_go_224 g37 (by decide) (by omega) (by decide) ?_
        rw [hmt (q + k) (by omega)]
        refine x_istore (lv2 := [(4, .int (nI (tv (q + k)))), (3, .int 0), (2, .int 1), (0, .ref 36)]) dX12_go_225 (by decide) rfl ?_
        refine x_iload_n dX12_go_227 1 rfl ?_
        refine x_if_eq (tgt := 244) dX12_go_228 (by decide) (fun c_228 => ?_) (fun c_228 => absurd (by decide) c_228)
        refine x_iconst (v := 0) dX12_go_244 (by decide) ?_
        refine x_istore_n (lv2 := [(3, .int 0), (4, .int (nI (tv (q + k)))), (2, .int 1), (0, .ref 36)]) dX12_go_245 (by decide) rfl ?_
        refine x_aload_n dX12_go_246 3 rfl ?_
        refine x_get (v := .int (nI (q + k))) dX12_go_247 fX12_75 f36 (by decide) rfl ?_
        refine x_aload_n dX12_go_250 3 rfl ?_
        refine x_get (v := .int (nI q)) dX12_go_251 fX12_78 f36 (by decide) rfl ?_
        refine x_isubN (a := (q + k)) (b := q) (by omega) dX12_go_254 ?_
        refine x_bipush (v := 8) dX12_go_255 (by decide) ?_
        refine x_icmp_geN (tgt := 280) (a := ((q + k) - q)) (b := 8) (by omega) (by omega) dX12_go_257 (by decide) (fun c_257 => ?_) (fun c_257 => ?_)
        · refine x_aload_n dX12_go_280 3 rfl ?_
          refine x_get (v := .int (nI (q + k))) dX12_go_281 fX12_75 f36 (by decide) rfl ?_
          refine x_aload_n dX12_go_284 3 rfl ?_
          refine x_get (v := .int (nI q)) dX12_go_285 fX12_78 f36 (by decide) rfl ?_
          refine x_isubN (a := (q + k)) (b := q) (by omega) dX12_go_288 ?_
          refine x_iconst (v := 5) dX12_go_289 (by decide) ?_
          refine x_icmp_geN (tgt := 310) (a := ((q + k) - q)) (b := 5) (by omega) (by omega) dX12_go_290 (by decide) (fun c_290 => ?_) (fun c_290 => ?_)
          · refine x_aload_n dX12_go_310 3 rfl ?_
            refine x_dup dX12_go_311 rfl ?_
            refine x_get (v := .int (nI (q + k))) dX12_go_312 fX12_75 f36 (by decide) rfl ?_
            refine x_iconst (v := 1) dX12_go_315 (by decide) ?_
            refine x_iaddN (a := (q + k)) (b := 1) dX12_go_316 ?_
            refine x_put (fs2 := (MO ((x 0)) ((x 1)) ((x 2)) ((x 3)) ((nI tn)) ((nI ((q + k) + 1))) ((nI q)) knd ((n10F (tkf tv q) k)) sgn flt plc ((w27F (tkf tv q) k)) tld ((x 4)) ((x 5)) ((x 6)) ((x 7)) ((x 8)) ((x 9)) ((x 10)) ((x 11)))) dX12_go_317 fX12_75 (Or.inl rfl) f36 (by decide) rfl rfl (Nat.le_of_ble_eq_true rfl) rfl (fun h103 a104 e105 l106 s107 => ?_)
            have f108 := (e105 37 (by decide)).trans g37
            have sm109 := Sm.put sm e105 l106 s107 (by decide)
            refine x_goto (tgt := 188) dX12_go_320 (by decide) ?_
            have I := ih (k + 1) h103 (by omega) (by omega) sm109 (by rw [show w27F (tkf tv q) (k + 1) = (w27F (tkf tv q) k) by rw [w27F, if_neg (by omega)], show n10F (tkf tv q) (k + 1) = (n10F (tkf tv q) k) by rw [n10F, if_neg (by omega)]]; exact a104)
            rw [show gdF (tkf tv q) (k + 1) = false by rw [gdF, show isLb ((tkf tv q) k) = true from hl, show isLb ((tkf tv q) 0) = true from hL, bfalse hg]; rfl] at I
            refine x_perm (lv2 := [(3, .int (if false = true then 1 else 0)), (2, .int 1), (0, .ref 36)]) [0, 2, 3] rfl ?_
            exact I
          · refine x_aload_n dX12_go_293 3 rfl ?_
            refine x_bipush (v := 10) dX12_go_294 (by decide) ?_
            refine x_aload_n dX12_go_296 3 rfl ?_
            refine x_get (v := .int (n10F (tkf tv q) k)) dX12_go_297 fX12_98 f36 (by decide) rfl ?_
            refine x_imul dX12_go_300 ?_
            refine x_iload dX12_go_301 1 rfl ?_
            refine x_iadd dX12_go_303 ?_
            refine x_bipush (v := 48) dX12_go_304 (by decide) ?_
            refine x_isub dX12_go_306 ?_
            refine x_put (fs2 := (MO ((x 0)) ((x 1)) ((x 2)) ((x 3)) ((nI tn)) ((nI (q + k))) ((nI q)) knd ((((10 * (n10F (tkf tv q) k)) + (nI (tv (q + k)))) - 48)) sgn flt plc ((w27F (tkf tv q) k)) tld ((x 4)) ((x 5)) ((x 6)) ((x 7)) ((x 8)) ((x 9)) ((x 10)) ((x 11)))) dX12_go_307 fX12_98 (Or.inl rfl) f36 (by decide) rfl rfl (Nat.le_of_ble_eq_true rfl) rfl (fun h110 a111 e112 l113 s114 => ?_)
            have f115 := (e112 37 (by decide)).trans g37
            have sm116 := Sm.put sm e112 l113 s114 (by decide)
            refine x_aload_n dX12_go_310 3 rfl ?_
            refine x_dup dX12_go_311 rfl ?_
            refine x_get (v := .int (nI (q + k))) dX12_go_312 fX12_75 a111 (by decide) rfl ?_
            refine x_iconst (v := 1) dX12_go_315 (by decide) ?_
            refine x_iaddN (a := (q + k)) (b := 1) dX12_go_316 ?_
            refine x_put (fs2 := (MO ((x 0)) ((x 1)) ((x 2)) ((x 3)) ((nI tn)) ((nI ((q + k) + 1))) ((nI q)) knd ((((10 * (n10F (tkf tv q) k)) + (nI (tv (q + k)))) - 48)) sgn flt plc ((w27F (tkf tv q) k)) tld ((x 4)) ((x 5)) ((x 6)) ((x 7)) ((x 8)) ((x 9)) ((x 10)) ((x 11)))) dX12_go_317 fX12_75 (Or.inl rfl) a111 (by decide) rfl rfl (Nat.le_of_ble_eq_true rfl) rfl (fun h117 a118 e119 l120 s121 => ?_)
            have f122 := (e119 37 (by decide)).trans f115
            have sm123 := Sm.put sm116 e119 l120 s121 (by decide)
            refine x_goto (tgt := 188) dX12_go_320 (by decide) ?_
            have I := ih (k + 1) h117 (by omega) (by omega) sm123 (by rw [show w27F (tkf tv q) (k + 1) = (w27F (tkf tv q) k) by rw [w27F, if_neg (by omega)], show n10F (tkf tv q) (k + 1) = (((10 * (n10F (tkf tv q) k)) + (nI (tv (q + k)))) - 48) by rw [n10F, if_pos (by omega)]]; exact a118)
            rw [show gdF (tkf tv q) (k + 1) = false by rw [gdF, show isLb ((tkf tv q) k) = true from hl, show isLb ((tkf tv q) 0) = true from hL, bfalse hg]; rfl] at I
            refine x_perm (lv2 := [(3, .int (if false = true then 1 else 0)), (2, .int 1), (0, .ref 36)]) [0, 2, 3] rfl ?_
            exact I
        · refine x_aload_n dX12_go_260 3 rfl ?_
          refine x_ldc2 (v := 27) dX12_go_261 kX12_105 ?_
          refine x_aload_n dX12_go_264 3 rfl ?_
          refine x_get (v := .long (w27F (tkf tv q) k)) dX12_go_265 fX12_94 f36 (by decide) rfl ?_
          refine x_lmul dX12_go_268 ?_
          refine x_iload dX12_go_269 1 rfl ?_
          refine x_i2l dX12_go_271 ?_
          refine x_ladd dX12_go_272 ?_
          refine x_ldc2 (v := 96) dX12_go_273 kX12_107 ?_
          refine x_lsub dX12_go_276 ?_
          refine x_put (fs2 := (MO ((x 0)) ((x 1)) ((x 2)) ((x 3)) ((nI tn)) ((nI (q + k))) ((nI q)) knd ((n10F (tkf tv q) k)) sgn flt plc ((((27 * (w27F (tkf tv q) k)) + ((nI (tv (q + k)))).toInt64) - 96)) tld ((x 4)) ((x 5)) ((x 6)) ((x 7)) ((x 8)) ((x 9)) ((x 10)) ((x 11)))) dX12_go_277 fX12_94 (Or.inl rfl) f36 (by decide) rfl rfl (Nat.le_of_ble_eq_true rfl) rfl (fun h124 a125 e126 l127 s128 => ?_)
          have f129 := (e126 37 (by decide)).trans g37
          have sm130 := Sm.put sm e126 l127 s128 (by decide)
          refine x_aload_n dX12_go_280 3 rfl ?_
          refine x_get (v := .int (nI (q + k))) dX12_go_281 fX12_75 a125 (by decide) rfl ?_
          refine x_aload_n dX12_go_284 3 rfl ?_
          refine x_get (v := .int (nI q)) dX12_go_285 fX12_78 a125 (by decide) rfl ?_
          refine x_isubN (a := (q + k)) (b := q) (by omega) dX12_go_288 ?_
          refine x_iconst (v := 5) dX12_go_289 (by decide) ?_
          refine x_icmp_geN (tgt := 310) (a := ((q + k) - q)) (b := 5) (by omega) (by omega) dX12_go_290 (by decide) (fun c_290 => ?_) (fun c_290 => ?_)
          · refine x_aload_n dX12_go_310 3 rfl ?_
            refine x_dup dX12_go_311 rfl ?_
            refine x_get (v := .int (nI (q + k))) dX12_go_312 fX12_75 a125 (by decide) rfl ?_
            refine x_iconst (v := 1) dX12_go_315 (by decide) ?_
            refine x_iaddN (a := (q + k)) (b := 1) dX12_go_316 ?_
            refine x_put (fs2 := (MO ((x 0)) ((x 1)) ((x 2)) ((x 3)) ((nI tn)) ((nI ((q + k) + 1))) ((nI q)) knd ((n10F (tkf tv q) k)) sgn flt plc ((((27 * (w27F (tkf tv q) k)) + ((nI (tv (q + k)))).toInt64) - 96)) tld ((x 4)) ((x 5)) ((x 6)) ((x 7)) ((x 8)) ((x 9)) ((x 10)) ((x 11)))) dX12_go_317 fX12_75 (Or.inl rfl) a125 (by decide) rfl rfl (Nat.le_of_ble_eq_true rfl) rfl (fun h131 a132 e133 l134 s135 => ?_)
            have f136 := (e133 37 (by decide)).trans f129
            have sm137 := Sm.put sm130 e133 l134 s135 (by decide)
            refine x_goto (tgt := 188) dX12_go_320 (by decide) ?_
            have I := ih (k + 1) h131 (by omega) (by omega) sm137 (by rw [show w27F (tkf tv q) (k + 1) = (((27 * (w27F (tkf tv q) k)) + ((nI (tv (q + k)))).toInt64) - 96) by rw [w27F, if_pos (by omega)], show n10F (tkf tv q) (k + 1) = (n10F (tkf tv q) k) by rw [n10F, if_neg (by omega)]]; exact a132)
            rw [show gdF (tkf tv q) (k + 1) = false by rw [gdF, show isLb ((tkf tv q) k) = true from hl, show isLb ((tkf tv q) 0) = true from hL, bfalse hg]; rfl] at I
            refine x_perm (lv2 := [(3, .int (if false = true then 1 else 0)), (2, .int 1), (0, .ref 36)]) [0, 2, 3] rfl ?_
            exact I
          · refine x_aload_n dX12_go_293 3 rfl ?_
            refine x_bipush (v := 10) dX12_go_294 (by decide) ?_
            refine x_aload_n dX12_go_296 3 rfl ?_
            refine x_get (v := .int (n10F (tkf tv q) k)) dX12_go_297 fX12_98 a125 (by decide) rfl ?_
            refine x_imul dX12_go_300 ?_
            refine x_iload dX12_go_301 1 rfl ?_
            refine x_iadd dX12_go_303 ?_
            refine x_bipush (v := 48) dX12_go_304 (by decide) ?_
            refine x_isub dX12_go_306 ?_
            refine x_put (fs2 := (MO ((x 0)) ((x 1)) ((x 2)) ((x 3)) ((nI tn)) ((nI (q + k))) ((nI q)) knd ((((10 * (n10F (tkf tv q) k)) + (nI (tv (q + k)))) - 48)) sgn flt plc ((((27 * (w27F (tkf tv q) k)) + ((nI (tv (q + k)))).toInt64) - 96)) tld ((x 4)) ((x 5)) ((x 6)) ((x 7)) ((x 8)) ((x 9)) ((x 10)) ((x 11)))) dX12_go_307 fX12_98 (Or.inl rfl) a125 (by decide) rfl rfl (Nat.le_of_ble_eq_true rfl) rfl (fun h138 a139 e140 l141 s142 => ?_)
            have f143 := (e140 37 (by decide)).trans f129
            have sm144 := Sm.put sm130 e140 l141 s142 (by decide)
            refine x_aload_n dX12_go_310 3 rfl ?_
            refine x_dup dX12_go_311 rfl ?_
            refine x_get (v := .int (nI (q + k))) dX12_go_312 fX12_75 a139 (by decide) rfl ?_
            refine x_iconst (v := 1) dX12_go_315 (by decide) ?_
            refine x_iaddN (a := (q + k)) (b := 1) dX12_go_316 ?_
            refine x_put (fs2 := (MO ((x 0)) ((x 1)) ((x 2)) ((x 3)) ((nI tn)) ((nI ((q + k) + 1))) ((nI q)) knd ((((10 * (n10F (tkf tv q) k)) + (nI (tv (q + k)))) - 48)) sgn flt plc ((((27 * (w27F (tkf tv q) k)) + ((nI (tv (q + k)))).toInt64) - 96)) tld ((x 4)) ((x 5)) ((x 6)) ((x 7)) ((x 8)) ((x 9)) ((x 10)) ((x 11)))) dX12_go_317 fX12_75 (Or.inl rfl) a139 (by decide) rfl rfl (Nat.le_of_ble_eq_true rfl) rfl (fun h145 a146 e147 l148 s149 => ?_)
            have f150 := (e147 37 (by decide)).trans f143
            have sm151 := Sm.put sm144 e147 l148 s149 (by decide)
            refine x_goto (tgt := 188) dX12_go_320 (by decide) ?_
            have I := ih (k + 1) h145 (by omega) (by omega) sm151 (by rw [show w27F (tkf tv q) (k + 1) = (((27 * (w27F (tkf tv q) k)) + ((nI (tv (q + k)))).toInt64) - 96) by rw [w27F, if_pos (by omega)], show n10F (tkf tv q) (k + 1) = (((10 * (n10F (tkf tv q) k)) + (nI (tv (q + k)))) - 48) by rw [n10F, if_pos (by omega)]]; exact a146)
            rw [show gdF (tkf tv q) (k + 1) = false by rw [gdF, show isLb ((tkf tv q) k) = true from hl, show isLb ((tkf tv q) 0) = true from hL, bfalse hg]; rfl] at I
            refine x_perm (lv2 := [(3, .int (if false = true then 1 else 0)), (2, .int 1), (0, .ref 36)]) [0, 2, 3] rfl ?_
            exact I
    · have hd : isDb (tv (q + k)) = true := isDb_iff.mpr (by have := isAb_iff.mp hk2; have := mt isLb_iff.mpr hl; omega)
      by_cases hg : gdF (tkf tv q) k = true
      · rw [if_pos hg]
        refine x_aload_n dX12_go_188 2 rfl ?_
        refine x_aload_n dX12_go_189 2 rfl ?_
        refine x_get (v := .int (nI (q + k))) dX12_go_190 fX12_75 f36 (by decide) rfl ?_
        refine x_callV (rf' := 0) (rl' := 0) [.int (nI (q + k))] [] dX12_go_193 vX12_101 Y_X12_byteAt f36 (by decide) rfl rfl (Nat.le_of_ble_eq_true rfl) (Nat.le_of_ble_eq_true rfl) (by decide) (by decide) (c_byteAtM (tv := tv) (by omega) htn hmt f36 g37) (fun _ _ e101 => ?_)
        cases e101
        rw [e9]
        refine x_callS (rf' := 0) (rl' := 0) [.int (nI (tv (q + k)))] [] dX12_go_196 vX12_84 Y_X12_isLetter rfl rfl (Nat.le_of_ble_eq_true rfl) (Nat.le_of_ble_eq_true rfl) (by decide) (by decide) (c_isLetterM hvk) (fun _ _ e102 => ?_)
        cases e102
        rw [show (if isLb ((tv (q + k))) = true then (1 : Int32) else 0) = 0 from if_neg hl]
        refine x_if_ne (tgt := 216) dX12_go_199 (by decide) (fun c_199 => absurd (by decide) c_199) (fun c_199 => ?_)
        refine x_aload_n dX12_go_202 2 rfl ?_
        refine x_aload_n dX12_go_203 2 rfl ?_
        refine x_get (v := .int (nI (q + k))) dX12_go_204 fX12_75 f36 (by decide) rfl ?_
        refine x_callV (rf' := 0) (rl' := 0) [.int (nI (q + k))] [] dX12_go_207 vX12_101 Y_X12_byteAt f36 (by decide) rfl rfl (Nat.le_of_ble_eq_true rfl) (Nat.le_of_ble_eq_true rfl) (by decide) (by decide) (c_byteAtM (tv := tv) (by omega) htn hmt f36 g37) (fun _ _ e103 => ?_)
        cases e103
        rw [e9]
        refine x_callS (rf' := 0) (rl' := 0) [.int (nI (tv (q + k)))] [] dX12_go_210 vX12_88 Y_X12_isDigit rfl rfl (Nat.le_of_ble_eq_true rfl) (Nat.le_of_ble_eq_true rfl) (by decide) (by decide) (c_isDigitM hvk) (fun _ _ e104 => ?_)
        cases e104
        rw [show (if isDb ((tv (q + k))) = true then (1 : Int32) else 0) = 1 from if_pos hd]
        refine x_if_eq (tgt := 323) dX12_go_213 (by decide) (fun c_213 => absurd c_213 (by decide)) (fun c_213 => ?_)
        refine x_aload_n dX12_go_216 2 rfl ?_
        refine x_get (v := .ref 37) dX12_go_217 fX12_7 f36 (by decide) rfl ?_
        refine x_aload_n dX12_go_220 2 rfl ?_
        refine x_get (v := .int (nI (q + k))) dX12_go_221 fX12_75 f36 (by decide) rfl ?_
        refine x_ialdN (i := (q + k)) dX12_go_224 g37 (by decide) (by omega) (by decide) ?_
        rw [hmt (q + k) (by omega)]
        refine x_istore (lv2 := [(4, .int (nI (tv (q + k)))), (3, .int 1), (2, .int 1), (0, .ref 36)]) dX12_go_225 (by decide) rfl ?_
        refine x_iload_n dX12_go_227 1 rfl ?_
        refine x_if_eq (tgt := 244) dX12_go_228 (by decide) (fun c_228 => absurd c_228 (by decide)) (fun c_228 => ?_)
        refine x_iload dX12_go_231 0 rfl ?_
        refine x_callS (rf' := 0) (rl' := 0) [.int (nI (tv (q + k)))] [] dX12_go_233 vX12_84 Y_X12_isLetter rfl rfl (Nat.le_of_ble_eq_true rfl) (Nat.le_of_ble_eq_true rfl) (by decide) (by decide) (c_isLetterM hvk) (fun _ _ e105 => ?_)
        cases e105
        rw [show (if isLb ((tv (q + k))) = true then (1 : Int32) else 0) = 0 from if_neg hl]
        refine x_iload_n dX12_go_236 2 rfl ?_
        refine x_icmp_ne (tgt := 244) dX12_go_237 (by decide) (fun c_237 => ?_) (fun c_237 => absurd c_237 (by decide))
        refine x_iconst (v := 0) dX12_go_244 (by decide) ?_
        refine x_istore_n (lv2 := [(3, .int 0), (4, .int (nI (tv (q + k)))), (2, .int 1), (0, .ref 36)]) dX12_go_245 (by decide) rfl ?_
        refine x_aload_n dX12_go_246 3 rfl ?_
        refine x_get (v := .int (nI (q + k))) dX12_go_247 fX12_75 f36 (by decide) rfl ?_
        refine x_aload_n dX12_go_250 3 rfl ?_
        refine x_get (v := .int (nI q)) dX12_go_251 fX12_78 f36 (by decide) rfl ?_
        refine x_isubN (a := (q + k)) (b := q) (by omega) dX12_go_254 ?_
        refine x_bipush (v := 8) dX12_go_255 (by decide) ?_
        refine x_icmp_geN (tgt := 280) (a := ((q + k) - q)) (b := 8) (by omega) (by omega) dX12_go_257 (by decide) (fun c_257 => ?_) (fun c_257 => ?_)
        · refine x_aload_n dX12_go_280 3 rfl ?_
          refine x_get (v := .int (nI (q + k))) dX12_go_281 fX12_75 f36 (by decide) rfl ?_
          refine x_aload_n dX12_go_284 3 rfl ?_
          refine x_get (v := .int (nI q)) dX12_go_285 fX12_78 f36 (by decide) rfl ?_
          refine x_isubN (a := (q + k)) (b := q) (by omega) dX12_go_288 ?_
          refine x_iconst (v := 5) dX12_go_289 (by decide) ?_
          refine x_icmp_geN (tgt := 310) (a := ((q + k) - q)) (b := 5) (by omega) (by omega) dX12_go_290 (by decide) (fun c_290 => ?_) (fun c_290 => ?_)
          · refine x_aload_n dX12_go_310 3 rfl ?_
            refine x_dup dX12_go_311 rfl ?_
            refine x_get (v := .int (nI (q + k))) dX12_go_312 fX12_75 f36 (by decide) rfl ?_
            refine x_iconst (v := 1) dX12_go_315 (by decide) ?_
            refine x_iaddN (a := (q + k)) (b := 1) dX12_go_316 ?_
            refine x_put (fs2 := (MO ((x 0)) ((x 1)) ((x 2)) ((x 3)) ((nI tn)) ((nI ((q + k) + 1))) ((nI q)) knd ((n10F (tkf tv q) k)) sgn flt plc ((w27F (tkf tv q) k)) tld ((x 4)) ((x 5)) ((x 6)) ((x 7)) ((x 8)) ((x 9)) ((x 10)) ((x 11)))) dX12_go_317 fX12_75 (Or.inl rfl) f36 (by decide) rfl rfl (Nat.le_of_ble_eq_true rfl) rfl (fun h106 a107 e108 l109 s110 => ?_)
            have f111 := (e108 37 (by decide)).trans g37
            have sm112 := Sm.put sm e108 l109 s110 (by decide)
            refine x_goto (tgt := 188) dX12_go_320 (by decide) ?_
            have I := ih (k + 1) h106 (by omega) (by omega) sm112 (by rw [show w27F (tkf tv q) (k + 1) = (w27F (tkf tv q) k) by rw [w27F, if_neg (by omega)], show n10F (tkf tv q) (k + 1) = (n10F (tkf tv q) k) by rw [n10F, if_neg (by omega)]]; exact a107)
            rw [show gdF (tkf tv q) (k + 1) = false by rw [gdF, show isLb ((tkf tv q) k) = false from bfalse hl, show isLb ((tkf tv q) 0) = true from hL, hg]; rfl] at I
            refine x_perm (lv2 := [(3, .int (if false = true then 1 else 0)), (2, .int 1), (0, .ref 36)]) [0, 2, 3] rfl ?_
            exact I
          · refine x_aload_n dX12_go_293 3 rfl ?_
            refine x_bipush (v := 10) dX12_go_294 (by decide) ?_
            refine x_aload_n dX12_go_296 3 rfl ?_
            refine x_get (v := .int (n10F (tkf tv q) k)) dX12_go_297 fX12_98 f36 (by decide) rfl ?_
            refine x_imul dX12_go_300 ?_
            refine x_iload dX12_go_301 1 rfl ?_
            refine x_iadd dX12_go_303 ?_
            refine x_bipush (v := 48) dX12_go_304 (by decide) ?_
            refine x_isub dX12_go_306 ?_
            refine x_put (fs2 := (MO ((x 0)) ((x 1)) ((x 2)) ((x 3)) ((nI tn)) ((nI (q + k))) ((nI q)) knd ((((10 * (n10F (tkf tv q) k)) + (nI (tv (q + k)))) - 48)) sgn flt plc ((w27F (tkf tv q) k)) tld ((x 4)) ((x 5)) ((x 6)) ((x 7)) ((x 8)) ((x 9)) ((x 10)) ((x 11)))) dX12_go_307 fX12_98 (Or.inl rfl) f36 (by decide) rfl rfl (Nat.le_of_ble_eq_true rfl) rfl (fun h113 a114 e115 l116 s117 => ?_)
            have f118 := (e115 37 (by decide)).trans g37
            have sm119 := Sm.put sm e115 l116 s117 (by decide)
            refine x_aload_n dX12_go_310 3 rfl ?_
            refine x_dup dX12_go_311 rfl ?_
            refine x_get (v := .int (nI (q + k))) dX12_go_312 fX12_75 a114 (by decide) rfl ?_
            refine x_iconst (v := 1) dX12_go_315 (by decide) ?_
            refine x_iaddN (a := (q + k)) (b := 1) dX12_go_316 ?_
            refine x_put (fs2 := (MO ((x 0)) ((x 1)) ((x 2)) ((x 3)) ((nI tn)) ((nI ((q + k) + 1))) ((nI q)) knd ((((10 * (n10F (tkf tv q) k)) + (nI (tv (q + k)))) - 48)) sgn flt plc ((w27F (tkf tv q) k)) tld ((x 4)) ((x 5)) ((x 6)) ((x 7)) ((x 8)) ((x 9)) ((x 10)) ((x 11)))) dX12_go_317 fX12_75 (Or.inl rfl) a114 (by decide) rfl rfl (Nat.le_of_ble_eq_true rfl) rfl (fun h120 a121 e122 l123 s124 => ?_)
            have f125 := (e122 37 (by decide)).trans f118
            have sm126 := Sm.put sm119 e122 l123 s124 (by decide)
            refine x_goto (tgt := 188) dX12_go_320 (by decide) ?_
            have I := ih (k + 1) h120 (by omega) (by omega) sm126 (by rw [show w27F (tkf tv q) (k + 1) = (w27F (tkf tv q) k) by rw [w27F, if_neg (by omega)], show n10F (tkf tv q) (k + 1) = (((10 * (n10F (tkf tv q) k)) + (nI (tv (q + k)))) - 48) by rw [n10F, if_pos (by omega)]]; exact a121)
            rw [show gdF (tkf tv q) (k + 1) = false by rw [gdF, show isLb ((tkf tv q) k) = false from bfalse hl, show isLb ((tkf tv q) 0) = true from hL, hg]; rfl] at I
            refine x_perm (lv2 := [(3, .int (if false = true then 1 else 0)), (2, .int 1), (0, .ref 36)]) [0, 2, 3] rfl ?_
            exact I
        · refine x_aload_n dX12_go_260 3 rfl ?_
          refine x_ldc2 (v := 27) dX12_go_261 kX12_105 ?_
          refine x_aload_n dX12_go_264 3 rfl ?_
          refine x_get (v := .long (w27F (tkf tv q) k)) dX12_go_265 fX12_94 f36 (by decide) rfl ?_
          refine x_lmul dX12_go_268 ?_
          refine x_iload dX12_go_269 1 rfl ?_
          refine x_i2l dX12_go_271 ?_
          refine x_ladd dX12_go_272 ?_
          refine x_ldc2 (v := 96) dX12_go_273 kX12_107 ?_
          refine x_lsub dX12_go_276 ?_
          refine x_put (fs2 := (MO ((x 0)) ((x 1)) ((x 2)) ((x 3)) ((nI tn)) ((nI (q + k))) ((nI q)) knd ((n10F (tkf tv q) k)) sgn flt plc ((((27 * (w27F (tkf tv q) k)) + ((nI (tv (q + k)))).toInt64) - 96)) tld ((x 4)) ((x 5)) ((x 6)) ((x 7)) ((x 8)) ((x 9)) ((x 10)) ((x 11)))) dX12_go_277 fX12_94 (Or.inl rfl) f36 (by decide) rfl rfl (Nat.le_of_ble_eq_true rfl) rfl (fun h127 a128 e129 l130 s131 => ?_)
          have f132 := (e129 37 (by decide)).trans g37
          have sm133 := Sm.put sm e129 l130 s131 (by decide)
          refine x_aload_n dX12_go_280 3 rfl ?_
          refine x_get (v := .int (nI (q + k))) dX12_go_281 fX12_75 a128 (by decide) rfl ?_
          refine x_aload_n dX12_go_284 3 rfl ?_
          refine x_get (v := .int (nI q)) dX12_go_285 fX12_78 a128 (by decide) rfl ?_
          refine x_isubN (a := (q + k)) (b := q) (by omega) dX12_go_288 ?_
          refine x_iconst (v := 5) dX12_go_289 (by decide) ?_
          refine x_icmp_geN (tgt := 310) (a := ((q + k) - q)) (b := 5) (by omega) (by omega) dX12_go_290 (by decide) (fun c_290 => ?_) (fun c_290 => ?_)
          · refine x_aload_n dX12_go_310 3 rfl ?_
            refine x_dup dX12_go_311 rfl ?_
            refine x_get (v := .int (nI (q + k))) dX12_go_312 fX12_75 a128 (by decide) rfl ?_
            refine x_iconst (v := 1) dX12_go_315 (by decide) ?_
            refine x_iaddN (a := (q + k)) (b := 1) dX12_go_316 ?_
            refine x_put (fs2 := (MO ((x 0)) ((x 1)) ((x 2)) ((x 3)) ((nI tn)) ((nI ((q + k) + 1))) ((nI q)) knd ((n10F (tkf tv q) k)) sgn flt plc ((((27 * (w27F (tkf tv q) k)) + ((nI (tv (q + k)))).toInt64) - 96)) tld ((x 4)) ((x 5)) ((x 6)) ((x 7)) ((x 8)) ((x 9)) ((x 10)) ((x 11)))) dX12_go_317 fX12_75 (Or.inl rfl) a128 (by decide) rfl rfl (Nat.le_of_ble_eq_true rfl) rfl (fun h134 a135 e136 l137 s138 => ?_)
            have f139 := (e136 37 (by decide)).trans f132
            have sm140 := Sm.put sm133 e136 l137 s138 (by decide)
            refine x_goto (tgt := 188) dX12_go_320 (by decide) ?_
            have I := ih (k + 1) h134 (by omega) (by omega) sm140 (by rw [show w27F (tkf tv q) (k + 1) = (((27 * (w27F (tkf tv q) k)) + ((nI (tv (q + k)))).toInt64) - 96) by rw [w27F, if_pos (by omega)], show n10F (tkf tv q) (k + 1) = (n10F (tkf tv q) k) by rw [n10F, if_neg (by omega)]]; exact a135)
            rw [show gdF (tkf tv q) (k + 1) = false by rw [gdF, show isLb ((tkf tv q) k) = false from bfalse hl, show isLb ((tkf tv q) 0) = true from hL, hg]; rfl] at I
            refine x_perm (lv2 := [(3, .int (if false = true then 1 else 0)), (2, .int 1), (0, .ref 36)]) [0, 2, 3] rfl ?_
            exact I
          · refine x_aload_n dX12_go_293 3 rfl ?_
            refine x_bipush (v := 10) dX12_go_294 (by decide) ?_
            refine x_aload_n dX12_go_296 3 rfl ?_
            refine x_get (v := .int (n10F (tkf tv q) k)) dX12_go_297 fX12_98 a128 (by decide) rfl ?_
            refine x_imul dX12_go_300 ?_
            refine x_iload dX12_go_301 1 rfl ?_
            refine x_iadd dX12_go_303 ?_
            refine x_bipush (v := 48) dX12_go_304 (by decide) ?_
            refine x_isub dX12_go_306 ?_
            refine x_put (fs2 := (MO ((x 0)) ((x 1)) ((x 2)) ((x 3)) ((nI tn)) ((nI (q + k))) ((nI q)) knd ((((10 * (n10F (tkf tv q) k)) + (nI (tv (q + k)))) - 48)) sgn flt plc ((((27 * (w27F (tkf tv q) k)) + ((nI (tv (q + k)))).toInt64) - 96)) tld ((x 4)) ((x 5)) ((x 6)) ((x 7)) ((x 8)) ((x 9)) ((x 10)) ((x 11)))) dX12_go_307 fX12_98 (Or.inl rfl) a128 (by decide) rfl rfl (Nat.le_of_ble_eq_true rfl) rfl (fun h141 a142 e143 l144 s145 => ?_)
            have f146 := (e143 37 (by decide)).trans f132
            have sm147 := Sm.put sm133 e143 l144 s145 (by decide)
            refine x_aload_n dX12_go_310 3 rfl ?_
            refine x_dup dX12_go_311 rfl ?_
            refine x_get (v := .int (nI (q + k))) dX12_go_312 fX12_75 a142 (by decide) rfl ?_
            refine x_iconst (v := 1) dX12_go_315 (by decide) ?_
            refine x_iaddN (a := (q + k)) (b := 1) dX12_go_316 ?_
            refine x_put (fs2 := (MO ((x 0)) ((x 1)) ((x 2)) ((x 3)) ((nI tn)) ((nI ((q + k) + 1))) ((nI q)) knd ((((10 * (n10F (tkf tv q) k)) + (nI (tv (q + k)))) - 48)) sgn flt plc ((((27 * (w27F (tkf tv q) k)) + ((nI (tv (q + k)))).toInt64) - 96)) tld ((x 4)) ((x 5)) ((x 6)) ((x 7)) ((x 8)) ((x 9)) ((x 10)) ((x 11)))) dX12_go_317 fX12_75 (Or.inl rfl) a142 (by decide) rfl rfl (Nat.le_of_ble_eq_true rfl) rfl (fun h148 a149 e150 l151 s152 => ?_)
            have f153 := (e150 37 (by decide)).trans f146
            have sm154 := Sm.put sm147 e150 l151 s152 (by decide)
            refine x_goto (tgt := 188) dX12_go_320 (by decide) ?_
            have I := ih (k + 1) h148 (by omega) (by omega) sm154 (by rw [show w27F (tkf tv q) (k + 1) = (((27 * (w27F (tkf tv q) k)) + ((nI (tv (q + k)))).toInt64) - 96) by rw [w27F, if_pos (by omega)], show n10F (tkf tv q) (k + 1) = (((10 * (n10F (tkf tv q) k)) + (nI (tv (q + k)))) - 48) by rw [n10F, if_pos (by omega)]]; exact a149)
            rw [show gdF (tkf tv q) (k + 1) = false by rw [gdF, show isLb ((tkf tv q) k) = false from bfalse hl, show isLb ((tkf tv q) 0) = true from hL, hg]; rfl] at I
            refine x_perm (lv2 := [(3, .int (if false = true then 1 else 0)), (2, .int 1), (0, .ref 36)]) [0, 2, 3] rfl ?_
            exact I
      · rw [if_neg hg]
        refine x_aload_n dX12_go_188 2 rfl ?_
        refine x_aload_n dX12_go_189 2 rfl ?_
        refine x_get (v := .int (nI (q + k))) dX12_go_190 fX12_75 f36 (by decide) rfl ?_
        refine x_callV (rf' := 0) (rl' := 0) [.int (nI (q + k))] [] dX12_go_193 vX12_101 Y_X12_byteAt f36 (by decide) rfl rfl (Nat.le_of_ble_eq_true rfl) (Nat.le_of_ble_eq_true rfl) (by decide) (by decide) (c_byteAtM (tv := tv) (by omega) htn hmt f36 g37) (fun _ _ e101 => ?_)
        cases e101
        rw [e9]
        refine x_callS (rf' := 0) (rl' := 0) [.int (nI (tv (q + k)))] [] dX12_go_196 vX12_84 Y_X12_isLetter rfl rfl (Nat.le_of_ble_eq_true rfl) (Nat.le_of_ble_eq_true rfl) (by decide) (by decide) (c_isLetterM hvk) (fun _ _ e102 => ?_)
        cases e102
        rw [show (if isLb ((tv (q + k))) = true then (1 : Int32) else 0) = 0 from if_neg hl]
        refine x_if_ne (tgt := 216) dX12_go_199 (by decide) (fun c_199 => absurd (by decide) c_199) (fun c_199 => ?_)
        refine x_aload_n dX12_go_202 2 rfl ?_
        refine x_aload_n dX12_go_203 2 rfl ?_
        refine x_get (v := .int (nI (q + k))) dX12_go_204 fX12_75 f36 (by decide) rfl ?_
        refine x_callV (rf' := 0) (rl' := 0) [.int (nI (q + k))] [] dX12_go_207 vX12_101 Y_X12_byteAt f36 (by decide) rfl rfl (Nat.le_of_ble_eq_true rfl) (Nat.le_of_ble_eq_true rfl) (by decide) (by decide) (c_byteAtM (tv := tv) (by omega) htn hmt f36 g37) (fun _ _ e103 => ?_)
        cases e103
        rw [e9]
        refine x_callS (rf' := 0) (rl' := 0) [.int (nI (tv (q + k)))] [] dX12_go_210 vX12_88 Y_X12_isDigit rfl rfl (Nat.le_of_ble_eq_true rfl) (Nat.le_of_ble_eq_true rfl) (by decide) (by decide) (c_isDigitM hvk) (fun _ _ e104 => ?_)
        cases e104
        rw [show (if isDb ((tv (q + k))) = true then (1 : Int32) else 0) = 1 from if_pos hd]
        refine x_if_eq (tgt := 323) dX12_go_213 (by decide) (fun c_213 => absurd c_213 (by decide)) (fun c_213 => ?_)
        refine x_aload_n dX12_go_216 2 rfl ?_
        refine x_get (v := .ref 37) dX12_go_217 fX12_7 f36 (by decide) rfl ?_
        refine x_aload_n dX12_go_220 2 rfl ?_
        refine x_get (v := .int (nI (q + k))) dX12_go_221 fX12_75 f36 (by decide) rfl ?_
        refine x_ialdN (i := (q + k)) dX12_go_224 g37 (by decide) (by omega) (by decide) ?_
        rw [hmt (q + k) (by omega)]
        refine x_istore (lv2 := [(4, .int (nI (tv (q + k)))), (3, .int 0), (2, .int 1), (0, .ref 36)]) dX12_go_225 (by decide) rfl ?_
        refine x_iload_n dX12_go_227 1 rfl ?_
        refine x_if_eq (tgt := 244) dX12_go_228 (by decide) (fun c_228 => ?_) (fun c_228 => absurd (by decide) c_228)
        refine x_iconst (v := 0) dX12_go_244 (by decide) ?_
        refine x_istore_n (lv2 := [(3, .int 0), (4, .int (nI (tv (q + k)))), (2, .int 1), (0, .ref 36)]) dX12_go_245 (by decide) rfl ?_
        refine x_aload_n dX12_go_246 3 rfl ?_
        refine x_get (v := .int (nI (q + k))) dX12_go_247 fX12_75 f36 (by decide) rfl ?_
        refine x_aload_n dX12_go_250 3 rfl ?_
        refine x_get (v := .int (nI q)) dX12_go_251 fX12_78 f36 (by decide) rfl ?_
        refine x_isubN (a := (q + k)) (b := q) (by omega) dX12_go_254 ?_
        refine x_bipush (v := 8) dX12_go_255 (by decide) ?_
        refine x_icmp_geN (tgt := 280) (a := ((q + k) - q)) (b := 8) (by omega) (by omega) dX12_go_257 (by decide) (fun c_257 => ?_) (fun c_257 => ?_)
        · refine x_aload_n dX12_go_280 3 rfl ?_
          refine x_get (v := .int (nI (q + k))) dX12_go_281 fX12_75 f36 (by decide) rfl ?_
          refine x_aload_n dX12_go_284 3 rfl ?_
          refine x_get (v := .int (nI q)) dX12_go_285 fX12_78 f36 (by decide) rfl ?_
          refine x_isubN (a := (q + k)) (b := q) (by omega) dX12_go_288 ?_
          refine x_iconst (v := 5) dX12_go_289 (by decide) ?_
          refine x_icmp_geN (tgt := 310) (a := ((q + k) - q)) (b := 5) (by omega) (by omega) dX12_go_290 (by decide) (fun c_290 => ?_) (fun c_290 => ?_)
          · refine x_aload_n dX12_go_310 3 rfl ?_
            refine x_dup dX12_go_311 rfl ?_
            refine x_get (v := .int (nI (q + k))) dX12_go_312 fX12_75 f36 (by decide) rfl ?_
            refine x_iconst (v := 1) dX12_go_315 (by decide) ?_
            refine x_iaddN (a := (q + k)) (b := 1) dX12_go_316 ?_
            refine x_put (fs2 := (MO ((x 0)) ((x 1)) ((x 2)) ((x 3)) ((nI tn)) ((nI ((q + k) + 1))) ((nI q)) knd ((n10F (tkf tv q) k)) sgn flt plc ((w27F (tkf tv q) k)) tld ((x 4)) ((x 5)) ((x 6)) ((x 7)) ((x 8)) ((x 9)) ((x 10)) ((x 11)))) dX12_go_317 fX12_75 (Or.inl rfl) f36 (by decide) rfl rfl (Nat.le_of_ble_eq_true rfl) rfl (fun h105 a106 e107 l108 s109 => ?_)
            have f110 := (e107 37 (by decide)).trans g37
            have sm111 := Sm.put sm e107 l108 s109 (by decide)
            refine x_goto (tgt := 188) dX12_go_320 (by decide) ?_
            have I := ih (k + 1) h105 (by omega) (by omega) sm111 (by rw [show w27F (tkf tv q) (k + 1) = (w27F (tkf tv q) k) by rw [w27F, if_neg (by omega)], show n10F (tkf tv q) (k + 1) = (n10F (tkf tv q) k) by rw [n10F, if_neg (by omega)]]; exact a106)
            rw [show gdF (tkf tv q) (k + 1) = false by rw [gdF, show isLb ((tkf tv q) k) = false from bfalse hl, show isLb ((tkf tv q) 0) = true from hL, bfalse hg]; rfl] at I
            refine x_perm (lv2 := [(3, .int (if false = true then 1 else 0)), (2, .int 1), (0, .ref 36)]) [0, 2, 3] rfl ?_
            exact I
          · refine x_aload_n dX12_go_293 3 rfl ?_
            refine x_bipush (v := 10) dX12_go_294 (by decide) ?_
            refine x_aload_n dX12_go_296 3 rfl ?_
            refine x_get (v := .int (n10F (tkf tv q) k)) dX12_go_297 fX12_98 f36 (by decide) rfl ?_
            refine x_imul dX12_go_300 ?_
            refine x_iload dX12_go_301 1 rfl ?_
            refine x_iadd dX12_go_303 ?_
            refine x_bipush (v := 48) dX12_go_304 (by decide) ?_
            refine x_isub dX12_go_306 ?_
            refine x_put (fs2 := (MO ((x 0)) ((x 1)) ((x 2)) ((x 3)) ((nI tn)) ((nI (q + k))) ((nI q)) knd ((((10 * (n10F (tkf tv q) k)) + (nI (tv (q + k)))) - 48)) sgn flt plc ((w27F (tkf tv q) k)) tld ((x 4)) ((x 5)) ((x 6)) ((x 7)) ((x 8)) ((x 9)) ((x 10)) ((x 11)))) dX12_go_307 fX12_98 (Or.inl rfl) f36 (by decide) rfl rfl (Nat.le_of_ble_eq_true rfl) rfl (fun h112 a113 e114 l115 s116 => ?_)
            have f117 := (e114 37 (by decide)).trans g37
            have sm118 := Sm.put sm e114 l115 s116 (by decide)
            refine x_aload_n dX12_go_310 3 rfl ?_
            refine x_dup dX12_go_311 rfl ?_
            refine x_get (v := .int (nI (q + k))) dX12_go_312 fX12_75 a113 (by decide) rfl ?_
            refine x_iconst (v := 1) dX12_go_315 (by decide) ?_
            refine x_iaddN (a := (q + k)) (b := 1) dX12_go_316 ?_
            refine x_put (fs2 := (MO ((x 0)) ((x 1)) ((x 2)) ((x 3)) ((nI tn)) ((nI ((q + k) + 1))) ((nI q)) knd ((((10 * (n10F (tkf tv q) k)) + (nI (tv (q + k)))) - 48)) sgn flt plc ((w27F (tkf tv q) k)) tld ((x 4)) ((x 5)) ((x 6)) ((x 7)) ((x 8)) ((x 9)) ((x 10)) ((x 11)))) dX12_go_317 fX12_75 (Or.inl rfl) a113 (by decide) rfl rfl (Nat.le_of_ble_eq_true rfl) rfl (fun h119 a120 e121 l122 s123 => ?_)
            have f124 := (e121 37 (by decide)).trans f117
            have sm125 := Sm.put sm118 e121 l122 s123 (by decide)
            refine x_goto (tgt := 188) dX12_go_320 (by decide) ?_
            have I := ih (k + 1) h119 (by omega) (by omega) sm125 (by rw [show w27F (tkf tv q) (k + 1) = (w27F (tkf tv q) k) by rw [w27F, if_neg (by omega)], show n10F (tkf tv q) (k + 1) = (((10 * (n10F (tkf tv q) k)) + (nI (tv (q + k)))) - 48) by rw [n10F, if_pos (by omega)]]; exact a120)
            rw [show gdF (tkf tv q) (k + 1) = false by rw [gdF, show isLb ((tkf tv q) k) = false from bfalse hl, show isLb ((tkf tv q) 0) = true from hL, bfalse hg]; rfl] at I
            refine x_perm (lv2 := [(3, .int (if false = true then 1 else 0)), (2, .int 1), (0, .ref 36)]) [0, 2, 3] rfl ?_
            exact I
        · refine x_aload_n dX12_go_260 3 rfl ?_
          refine x_ldc2 (v := 27) dX12_go_261 kX12_105 ?_
          refine x_aload_n dX12_go_264 3 rfl ?_
          refine x_get (v := .long (w27F (tkf tv q) k)) dX12_go_265 fX12_94 f36 (by decide) rfl ?_
          refine x_lmul dX12_go_268 ?_
          refine x_iload dX12_go_269 1 rfl ?_
          refine x_i2l dX12_go_271 ?_
          refine x_ladd dX12_go_272 ?_
          refine x_ldc2 (v := 96) dX12_go_273 kX12_107 ?_
          refine x_lsub dX12_go_276 ?_
          refine x_put (fs2 := (MO ((x 0)) ((x 1)) ((x 2)) ((x 3)) ((nI tn)) ((nI (q + k))) ((nI q)) knd ((n10F (tkf tv q) k)) sgn flt plc ((((27 * (w27F (tkf tv q) k)) + ((nI (tv (q + k)))).toInt64) - 96)) tld ((x 4)) ((x 5)) ((x 6)) ((x 7)) ((x 8)) ((x 9)) ((x 10)) ((x 11)))) dX12_go_277 fX12_94 (Or.inl rfl) f36 (by decide) rfl rfl (Nat.le_of_ble_eq_true rfl) rfl (fun h126 a127 e128 l129 s130 => ?_)
          have f131 := (e128 37 (by decide)).trans g37
          have sm132 := Sm.put sm e128 l129 s130 (by decide)
          refine x_aload_n dX12_go_280 3 rfl ?_
          refine x_get (v := .int (nI (q + k))) dX12_go_281 fX12_75 a127 (by decide) rfl ?_
          refine x_aload_n dX12_go_284 3 rfl ?_
          refine x_get (v := .int (nI q)) dX12_go_285 fX12_78 a127 (by decide) rfl ?_
          refine x_isubN (a := (q + k)) (b := q) (by omega) dX12_go_288 ?_
          refine x_iconst (v := 5) dX12_go_289 (by decide) ?_
          refine x_icmp_geN (tgt := 310) (a := ((q + k) - q)) (b := 5) (by omega) (by omega) dX12_go_290 (by decide) (fun c_290 => ?_) (fun c_290 => ?_)
          · refine x_aload_n dX12_go_310 3 rfl ?_
            refine x_dup dX12_go_311 rfl ?_
            refine x_get (v := .int (nI (q + k))) dX12_go_312 fX12_75 a127 (by decide) rfl ?_
            refine x_iconst (v := 1) dX12_go_315 (by decide) ?_
            refine x_iaddN (a := (q + k)) (b := 1) dX12_go_316 ?_
            refine x_put (fs2 := (MO ((x 0)) ((x 1)) ((x 2)) ((x 3)) ((nI tn)) ((nI ((q + k) + 1))) ((nI q)) knd ((n10F (tkf tv q) k)) sgn flt plc ((((27 * (w27F (tkf tv q) k)) + ((nI (tv (q + k)))).toInt64) - 96)) tld ((x 4)) ((x 5)) ((x 6)) ((x 7)) ((x 8)) ((x 9)) ((x 10)) ((x 11)))) dX12_go_317 fX12_75 (Or.inl rfl) a127 (by decide) rfl rfl (Nat.le_of_ble_eq_true rfl) rfl (fun h133 a134 e135 l136 s137 => ?_)
            have f138 := (e135 37 (by decide)).trans f131
            have sm139 := Sm.put sm132 e135 l136 s137 (by decide)
            refine x_goto (tgt := 188) dX12_go_320 (by decide) ?_
            have I := ih (k + 1) h133 (by omega) (by omega) sm139 (by rw [show w27F (tkf tv q) (k + 1) = (((27 * (w27F (tkf tv q) k)) + ((nI (tv (q + k)))).toInt64) - 96) by rw [w27F, if_pos (by omega)], show n10F (tkf tv q) (k + 1) = (n10F (tkf tv q) k) by rw [n10F, if_neg (by omega)]]; exact a134)
            rw [show gdF (tkf tv q) (k + 1) = false by rw [gdF, show isLb ((tkf tv q) k) = false from bfalse hl, show isLb ((tkf tv q) 0) = true from hL, bfalse hg]; rfl] at I
            refine x_perm (lv2 := [(3, .int (if false = true then 1 else 0)), (2, .int 1), (0, .ref 36)]) [0, 2, 3] rfl ?_
            exact I
          · refine x_aload_n dX12_go_293 3 rfl ?_
            refine x_bipush (v := 10) dX12_go_294 (by decide) ?_
            refine x_aload_n dX12_go_296 3 rfl ?_
            refine x_get (v := .int (n10F (tkf tv q) k)) dX12_go_297 fX12_98 a127 (by decide) rfl ?_
            refine x_imul dX12_go_300 ?_
            refine x_iload dX12_go_301 1 rfl ?_
            refine x_iadd dX12_go_303 ?_
            refine x_bipush (v := 48) dX12_go_304 (by decide) ?_
            refine x_isub dX12_go_306 ?_
            refine x_put (fs2 := (MO ((x 0)) ((x 1)) ((x 2)) ((x 3)) ((nI tn)) ((nI (q + k))) ((nI q)) knd ((((10 * (n10F (tkf tv q) k)) + (nI (tv (q + k)))) - 48)) sgn flt plc ((((27 * (w27F (tkf tv q) k)) + ((nI (tv (q + k)))).toInt64) - 96)) tld ((x 4)) ((x 5)) ((x 6)) ((x 7)) ((x 8)) ((x 9)) ((x 10)) ((x 11)))) dX12_go_307 fX12_98 (Or.inl rfl) a127 (by decide) rfl rfl (Nat.le_of_ble_eq_true rfl) rfl (fun h140 a141 e142 l143 s144 => ?_)
            have f145 := (e142 37 (by decide)).trans f131
            have sm146 := Sm.put sm132 e142 l143 s144 (by decide)
            refine x_aload_n dX12_go_310 3 rfl ?_
            refine x_dup dX12_go_311 rfl ?_
            refine x_get (v := .int (nI (q + k))) dX12_go_312 fX12_75 a141 (by decide) rfl ?_
            refine x_iconst (v := 1) dX12_go_315 (by decide) ?_
            refine x_iaddN (a := (q + k)) (b := 1) dX12_go_316 ?_
            refine x_put (fs2 := (MO ((x 0)) ((x 1)) ((x 2)) ((x 3)) ((nI tn)) ((nI ((q + k) + 1))) ((nI q)) knd ((((10 * (n10F (tkf tv q) k)) + (nI (tv (q + k)))) - 48)) sgn flt plc ((((27 * (w27F (tkf tv q) k)) + ((nI (tv (q + k)))).toInt64) - 96)) tld ((x 4)) ((x 5)) ((x 6)) ((x 7)) ((x 8)) ((x 9)) ((x 10)) ((x 11)))) dX12_go_317 fX12_75 (Or.inl rfl) a141 (by decide) rfl rfl (Nat.le_of_ble_eq_true rfl) rfl (fun h147 a148 e149 l150 s151 => ?_)
            have f152 := (e149 37 (by decide)).trans f145
            have sm153 := Sm.put sm146 e149 l150 s151 (by decide)
            refine x_goto (tgt := 188) dX12_go_320 (by decide) ?_
            have I := ih (k + 1) h147 (by omega) (by omega) sm153 (by rw [show w27F (tkf tv q) (k + 1) = (((27 * (w27F (tkf tv q) k)) + ((nI (tv (q + k)))).toInt64) - 96) by rw [w27F, if_pos (by omega)], show n10F (tkf tv q) (k + 1) = (((10 * (n10F (tkf tv q) k)) + (nI (tv (q + k)))) - 48) by rw [n10F, if_pos (by omega)]]; exact a148)
            rw [show gdF (tkf tv q) (k + 1) = false by rw [gdF, show isLb ((tkf tv q) k) = false from bfalse hl, show isLb ((tkf tv q) 0) = true from hL, bfalse hg]; rfl] at I
            refine x_perm (lv2 := [(3, .int (if false = true then 1 else 0)), (2, .int 1), (0, .ref 36)]) [0, 2, 3] rfl ?_
            exact I

set_option maxRecDepth 100000 in
set_option maxHeartbeats 4000000 in
theorem l_goR0 {G : GT} {h0 : List PE} {tn q : Nat} {tv : Nat → Nat} {mtp : Nat → Int32} {flt plc tld knd sgn : Int32} {x : Nat → Int32} {Q : OT → Prop} (htn : tn ≤ 640) (hv : ∀ j, j < tn → tv j < 256) (hmt : ∀ j, j < tn → mtp j = nI (tv j)) (hq : q < tn) (ha : isAb (tv q) = true) (hL : isLb (tv q) = false) (f37 : h0[37]? = some (cI 640 mtp)) (KX : ∀ h, Sm [36] h0 h → h[36]? = some (cO 12 (MO ((x 0)) ((x 1)) ((x 2)) ((x 3)) ((nI tn)) ((nI (q + (tkN tn tv q)))) ((nI q)) knd ((n10F (tkf tv q) (tkN tn tv q))) sgn flt plc ((w27F (tkf tv q) (tkN tn tv q))) tld ((x 4)) ((x 5)) ((x 6)) ((x 7)) ((x 8)) ((x 9)) ((x 10)) ((x 11)))) → X (NF G) G mX12_go 1 21 323 [(3, .int (if gdF (tkf tv q) (tkN tn tv q) = true then 1 else 0)), (2, .int 0), (0, .ref 36)] [] h Q) : ∀ (m k : Nat) (h : List PE), (tkN tn tv q) - k = m → k ≤ (tkN tn tv q) → Sm [36] h0 h → h[36]? = some (cO 12 (MO ((x 0)) ((x 1)) ((x 2)) ((x 3)) ((nI tn)) ((nI (q + k))) ((nI q)) knd ((n10F (tkf tv q) k)) sgn flt plc ((w27F (tkf tv q) k)) tld ((x 4)) ((x 5)) ((x 6)) ((x 7)) ((x 8)) ((x 9)) ((x 10)) ((x 11)))) → X (NF G) G mX12_go 1 21 188 [(3, .int (if gdF (tkf tv q) k = true then 1 else 0)), (2, .int 0), (0, .ref 36)] [] h Q := by
  obtain ⟨n1, n2, n3, n4⟩ := tkN_spec hq ha
  intro m
  induction m with
  | zero =>
    intro k h hm hk sm f36
    have ek : k = (tkN tn tv q) := by omega
    have g37 := sm.at f37 (by decide)
    rw [ek] at f36 ⊢
    have hc : isLb (if q + (tkN tn tv q) < tn then tv (q + (tkN tn tv q)) else 0) = false ∧ isDb (if q + (tkN tn tv q) < tn then tv (q + (tkN tn tv q)) else 0) = false ∧ (if q + (tkN tn tv q) < tn then tv (q + (tkN tn tv q)) else 0) < 256 := by
      by_cases e : q + (tkN tn tv q) < tn
      · rw [if_pos e]
        have n5 := n4 e
        unfold isAb at n5
        exact ⟨(Bool.or_eq_false_iff.mp n5).1, (Bool.or_eq_false_iff.mp n5).2, hv _ e⟩
      · rw [if_neg e]; decide
    refine x_aload_n dX12_go_188 2 rfl ?_
    refine x_aload_n dX12_go_189 2 rfl ?_
    refine x_get (v := .int (nI (q + (tkN tn tv q)))) dX12_go_190 fX12_75 f36 (by decide) rfl ?_
    refine x_callV (rf' := 0) (rl' := 0) [.int (nI (q + (tkN tn tv q)))] [] dX12_go_193 vX12_101 Y_X12_byteAt f36 (by decide) rfl rfl (Nat.le_of_ble_eq_true rfl) (Nat.le_of_ble_eq_true rfl) (by decide) (by decide) (c_byteAtM (tv := tv) (by omega) htn hmt f36 g37) (fun _ _ e101 => ?_)
    cases e101
    refine x_callS (rf' := 0) (rl' := 0) [.int (nI (if q + (tkN tn tv q) < tn then tv (q + (tkN tn tv q)) else 0))] [] dX12_go_196 vX12_84 Y_X12_isLetter rfl rfl (Nat.le_of_ble_eq_true rfl) (Nat.le_of_ble_eq_true rfl) (by decide) (by decide) (c_isLetterM hc.2.2) (fun _ _ e102 => ?_)
    cases e102
    rw [show (if isLb ((if q + (tkN tn tv q) < tn then tv (q + (tkN tn tv q)) else 0)) = true then (1 : Int32) else 0) = 0 from if_neg (by rw [hc.1]; decide)]
    refine x_if_ne (tgt := 216) dX12_go_199 (by decide) (fun c_199 => absurd (by decide) c_199) (fun c_199 => ?_)
    refine x_aload_n dX12_go_202 2 rfl ?_
    refine x_aload_n dX12_go_203 2 rfl ?_
    refine x_get (v := .int (nI (q + (tkN tn tv q)))) dX12_go_204 fX12_75 f36 (by decide) rfl ?_
    refine x_callV (rf' := 0) (rl' := 0) [.int (nI (q + (tkN tn tv q)))] [] dX12_go_207 vX12_101 Y_X12_byteAt f36 (by decide) rfl rfl (Nat.le_of_ble_eq_true rfl) (Nat.le_of_ble_eq_true rfl) (by decide) (by decide) (c_byteAtM (tv := tv) (by omega) htn hmt f36 g37) (fun _ _ e103 => ?_)
    cases e103
    refine x_callS (rf' := 0) (rl' := 0) [.int (nI (if q + (tkN tn tv q) < tn then tv (q + (tkN tn tv q)) else 0))] [] dX12_go_210 vX12_88 Y_X12_isDigit rfl rfl (Nat.le_of_ble_eq_true rfl) (Nat.le_of_ble_eq_true rfl) (by decide) (by decide) (c_isDigitM hc.2.2) (fun _ _ e104 => ?_)
    cases e104
    rw [show (if isDb ((if q + (tkN tn tv q) < tn then tv (q + (tkN tn tv q)) else 0)) = true then (1 : Int32) else 0) = 0 from if_neg (by rw [hc.2.1]; decide)]
    refine x_if_eq (tgt := 323) dX12_go_213 (by decide) (fun c_213 => ?_) (fun c_213 => absurd (by decide) c_213)
    refine x_perm [0, 1, 2] rfl ?_
    exact KX h sm f36
  | succ m ih =>
    intro k h hm hk sm f36
    have hk2 := n3 k (by omega)
    have g37 := sm.at f37 (by decide)
    have hvk := hv (q + k) (by omega)
    have e9 : (if q + k < tn then tv (q + k) else 0) = tv (q + k) := if_pos (by omega)
    by_cases hl : isLb (tv (q + k)) = true
    · skip
      by_cases hg : gdF (tkf tv q) k = true
      · rw [if_pos hg]
        refine x_aload_n dX12_go_188 2 rfl ?_
        refine x_aload_n dX12_go_189 2 rfl ?_
        refine x_get (v := .int (nI (q + k))) dX12_go_190 fX12_75 f36 (by decide) rfl ?_
        refine x_callV (rf' := 0) (rl' := 0) [.int (nI (q + k))] [] dX12_go_193 vX12_101 Y_X12_byteAt f36 (by decide) rfl rfl (Nat.le_of_ble_eq_true rfl) (Nat.le_of_ble_eq_true rfl) (by decide) (by decide) (c_byteAtM (tv := tv) (by omega) htn hmt f36 g37) (fun _ _ e101 => ?_)
        cases e101
        rw [e9]
        refine x_callS (rf' := 0) (rl' := 0) [.int (nI (tv (q + k)))] [] dX12_go_196 vX12_84 Y_X12_isLetter rfl rfl (Nat.le_of_ble_eq_true rfl) (Nat.le_of_ble_eq_true rfl) (by decide) (by decide) (c_isLetterM hvk) (fun _ _ e102 => ?_)
        cases e102
        rw [show (if isLb ((tv (q + k))) = true then (1 : Int32) else 0) = 1 from if_pos hl]
        refine x_if_ne (tgt := 216) dX12_go_199 (by decide) (fun c_199 => ?_) (fun c_199 => absurd c_199 (by decide))
        refine x_aload_n dX12_go_216 2 rfl ?_
        refine x_get (v := .ref 37) dX12_go_217 fX12_7 f36 (by decide) rfl ?_
        refine x_aload_n dX12_go_220 2 rfl ?_
        refine x_get (v := .int (nI (q + k))) dX12_go_221 fX12_75 f36 (by decide) rfl ?_
        refine x_ialdN (i := (q + k)) dX12_go_224 g37 (by decide) (by omega) (by decide) ?_
        rw [hmt (q + k) (by omega)]
        refine x_istore (lv2 := [(4, .int (nI (tv (q + k)))), (3, .int 1), (2, .int 0), (0, .ref 36)]) dX12_go_225 (by decide) rfl ?_
        refine x_iload_n dX12_go_227 1 rfl ?_
        refine x_if_eq (tgt := 244) dX12_go_228 (by decide) (fun c_228 => absurd c_228 (by decide)) (fun c_228 => ?_)
        refine x_iload dX12_go_231 0 rfl ?_
        refine x_callS (rf' := 0) (rl' := 0) [.int (nI (tv (q + k)))] [] dX12_go_233 vX12_84 Y_X12_isLetter rfl rfl (Nat.le_of_ble_eq_true rfl) (Nat.le_of_ble_eq_true rfl) (by decide) (by decide) (c_isLetterM hvk) (fun _ _ e103 => ?_)
        cases e103
        rw [show (if isLb ((tv (q + k))) = true then (1 : Int32) else 0) = 1 from if_pos hl]
        refine x_iload_n dX12_go_236 2 rfl ?_
        refine x_icmp_ne (tgt := 244) dX12_go_237 (by decide) (fun c_237 => ?_) (fun c_237 => absurd c_237 (by decide))
        refine x_iconst (v := 0) dX12_go_244 (by decide) ?_
        refine x_istore_n (lv2 := [(3, .int 0), (4, .int (nI (tv (q + k)))), (2, .int 0), (0, .ref 36)]) dX12_go_245 (by decide) rfl ?_
        refine x_aload_n dX12_go_246 3 rfl ?_
        refine x_get (v := .int (nI (q + k))) dX12_go_247 fX12_75 f36 (by decide) rfl ?_
        refine x_aload_n dX12_go_250 3 rfl ?_
        refine x_get (v := .int (nI q)) dX12_go_251 fX12_78 f36 (by decide) rfl ?_
        refine x_isubN (a := (q + k)) (b := q) (by omega) dX12_go_254 ?_
        refine x_bipush (v := 8) dX12_go_255 (by decide) ?_
        refine x_icmp_geN (tgt := 280) (a := ((q + k) - q)) (b := 8) (by omega) (by omega) dX12_go_257 (by decide) (fun c_257 => ?_) (fun c_257 => ?_)
        · refine x_aload_n dX12_go_280 3 rfl ?_
          refine x_get (v := .int (nI (q + k))) dX12_go_281 fX12_75 f36 (by decide) rfl ?_
          refine x_aload_n dX12_go_284 3 rfl ?_
          refine x_get (v := .int (nI q)) dX12_go_285 fX12_78 f36 (by decide) rfl ?_
          refine x_isubN (a := (q + k)) (b := q) (by omega) dX12_go_288 ?_
          refine x_iconst (v := 5) dX12_go_289 (by decide) ?_
          refine x_icmp_geN (tgt := 310) (a := ((q + k) - q)) (b := 5) (by omega) (by omega) dX12_go_290 (by decide) (fun c_290 => ?_) (fun c_290 => ?_)
          · refine x_aload_n dX12_go_310 3 rfl ?_
            refine x_dup dX12_go_311 rfl ?_
            refine x_get (v := .int (nI (q + k))) dX12_go_312 fX12_75 f36 (by decide) rfl ?_
            refine x_iconst (v := 1) dX12_go_315 (by decide) ?_
            refine x_iaddN (a := (q + k)) (b := 1) dX12_go_316 ?_
            refine x_put (fs2 := (MO ((x 0)) ((x 1)) ((x 2)) ((x 3)) ((nI tn)) ((nI ((q + k) + 1))) ((nI q)) knd ((n10F (tkf tv q) k)) sgn flt plc ((w27F (tkf tv q) k)) tld ((x 4)) ((x 5)) ((x 6)) ((x 7)) ((x 8)) ((x 9)) ((x 10)) ((x 11)))) dX12_go_317 fX12_75 (Or.inl rfl) f36 (by decide) rfl rfl (Nat.le_of_ble_eq_true rfl) rfl (fun h104 a105 e106 l107 s108 => ?_)
            have f109 := (e106 37 (by decide)).trans g37
            have sm110 := Sm.put sm e106 l107 s108 (by decide)
            refine x_goto (tgt := 188) dX12_go_320 (by decide) ?_
            have I := ih (k + 1) h104 (by omega) (by omega) sm110 (by rw [show w27F (tkf tv q) (k + 1) = (w27F (tkf tv q) k) by rw [w27F, if_neg (by omega)], show n10F (tkf tv q) (k + 1) = (n10F (tkf tv q) k) by rw [n10F, if_neg (by omega)]]; exact a105)
            rw [show gdF (tkf tv q) (k + 1) = false by rw [gdF, show isLb ((tkf tv q) k) = true from hl, show isLb ((tkf tv q) 0) = false from hL, hg]; rfl] at I
            refine x_perm (lv2 := [(3, .int (if false = true then 1 else 0)), (2, .int 0), (0, .ref 36)]) [0, 2, 3] rfl ?_
            exact I
          · refine x_aload_n dX12_go_293 3 rfl ?_
            refine x_bipush (v := 10) dX12_go_294 (by decide) ?_
            refine x_aload_n dX12_go_296 3 rfl ?_
            refine x_get (v := .int (n10F (tkf tv q) k)) dX12_go_297 fX12_98 f36 (by decide) rfl ?_
            refine x_imul dX12_go_300 ?_
            refine x_iload dX12_go_301 1 rfl ?_
            refine x_iadd dX12_go_303 ?_
            refine x_bipush (v := 48) dX12_go_304 (by decide) ?_
            refine x_isub dX12_go_306 ?_
            refine x_put (fs2 := (MO ((x 0)) ((x 1)) ((x 2)) ((x 3)) ((nI tn)) ((nI (q + k))) ((nI q)) knd ((((10 * (n10F (tkf tv q) k)) + (nI (tv (q + k)))) - 48)) sgn flt plc ((w27F (tkf tv q) k)) tld ((x 4)) ((x 5)) ((x 6)) ((x 7)) ((x 8)) ((x 9)) ((x 10)) ((x 11)))) dX12_go_307 fX12_98 (Or.inl rfl) f36 (by decide) rfl rfl (Nat.le_of_ble_eq_true rfl) rfl (fun h111 a112 e113 l114 s115 => ?_)
            have f116 := (e113 37 (by decide)).trans g37
            have sm117 := Sm.put sm e113 l114 s115 (by decide)
            refine x_aload_n dX12_go_310 3 rfl ?_
            refine x_dup dX12_go_311 rfl ?_
            refine x_get (v := .int (nI (q + k))) dX12_go_312 fX12_75 a112 (by decide) rfl ?_
            refine x_iconst (v := 1) dX12_go_315 (by decide) ?_
            refine x_iaddN (a := (q + k)) (b := 1) dX12_go_316 ?_
            refine x_put (fs2 := (MO ((x 0)) ((x 1)) ((x 2)) ((x 3)) ((nI tn)) ((nI ((q + k) + 1))) ((nI q)) knd ((((10 * (n10F (tkf tv q) k)) + (nI (tv (q + k)))) - 48)) sgn flt plc ((w27F (tkf tv q) k)) tld ((x 4)) ((x 5)) ((x 6)) ((x 7)) ((x 8)) ((x 9)) ((x 10)) ((x 11)))) dX12_go_317 fX12_75 (Or.inl rfl) a112 (by decide) rfl rfl (Nat.le_of_ble_eq_true rfl) rfl (fun h118 a119 e120 l121 s122 => ?_)
            have f123 := (e120 37 (by decide)).trans f116
            have sm124 := Sm.put sm117 e120 l121 s122 (by decide)
            refine x_goto (tgt := 188) dX12_go_320 (by decide) ?_
            have I := ih (k + 1) h118 (by omega) (by omega) sm124 (by rw [show w27F (tkf tv q) (k + 1) = (w27F (tkf tv q) k) by rw [w27F, if_neg (by omega)], show n10F (tkf tv q) (k + 1) = (((10 * (n10F (tkf tv q) k)) + (nI (tv (q + k)))) - 48) by rw [n10F, if_pos (by omega)]]; exact a119)
            rw [show gdF (tkf tv q) (k + 1) = false by rw [gdF, show isLb ((tkf tv q) k) = true from hl, show isLb ((tkf tv q) 0) = false from hL, hg]; rfl] at I
            refine x_perm (lv2 := [(3, .int (if false = true then 1 else 0)), (2, .int 0), (0, .ref 36)]) [0, 2, 3] rfl ?_
            exact I
        · refine x_aload_n dX12_go_260 3 rfl ?_
          refine x_ldc2 (v := 27) dX12_go_261 kX12_105 ?_
          refine x_aload_n dX12_go_264 3 rfl ?_
          refine x_get (v := .long (w27F (tkf tv q) k)) dX12_go_265 fX12_94 f36 (by decide) rfl ?_
          refine x_lmul dX12_go_268 ?_
          refine x_iload dX12_go_269 1 rfl ?_
          refine x_i2l dX12_go_271 ?_
          refine x_ladd dX12_go_272 ?_
          refine x_ldc2 (v := 96) dX12_go_273 kX12_107 ?_
          refine x_lsub dX12_go_276 ?_
          refine x_put (fs2 := (MO ((x 0)) ((x 1)) ((x 2)) ((x 3)) ((nI tn)) ((nI (q + k))) ((nI q)) knd ((n10F (tkf tv q) k)) sgn flt plc ((((27 * (w27F (tkf tv q) k)) + ((nI (tv (q + k)))).toInt64) - 96)) tld ((x 4)) ((x 5)) ((x 6)) ((x 7)) ((x 8)) ((x 9)) ((x 10)) ((x 11)))) dX12_go_277 fX12_94 (Or.inl rfl) f36 (by decide) rfl rfl (Nat.le_of_ble_eq_true rfl) rfl (fun h125 a126 e127 l128 s129 => ?_)
          have f130 := (e127 37 (by decide)).trans g37
          have sm131 := Sm.put sm e127 l128 s129 (by decide)
          refine x_aload_n dX12_go_280 3 rfl ?_
          refine x_get (v := .int (nI (q + k))) dX12_go_281 fX12_75 a126 (by decide) rfl ?_
          refine x_aload_n dX12_go_284 3 rfl ?_
          refine x_get (v := .int (nI q)) dX12_go_285 fX12_78 a126 (by decide) rfl ?_
          refine x_isubN (a := (q + k)) (b := q) (by omega) dX12_go_288 ?_
          refine x_iconst (v := 5) dX12_go_289 (by decide) ?_
          refine x_icmp_geN (tgt := 310) (a := ((q + k) - q)) (b := 5) (by omega) (by omega) dX12_go_290 (by decide) (fun c_290 => ?_) (fun c_290 => ?_)
          · refine x_aload_n dX12_go_310 3 rfl ?_
            refine x_dup dX12_go_311 rfl ?_
            refine x_get (v := .int (nI (q + k))) dX12_go_312 fX12_75 a126 (by decide) rfl ?_
            refine x_iconst (v := 1) dX12_go_315 (by decide) ?_
            refine x_iaddN (a := (q + k)) (b := 1) dX12_go_316 ?_
            refine x_put (fs2 := (MO ((x 0)) ((x 1)) ((x 2)) ((x 3)) ((nI tn)) ((nI ((q + k) + 1))) ((nI q)) knd ((n10F (tkf tv q) k)) sgn flt plc ((((27 * (w27F (tkf tv q) k)) + ((nI (tv (q + k)))).toInt64) - 96)) tld ((x 4)) ((x 5)) ((x 6)) ((x 7)) ((x 8)) ((x 9)) ((x 10)) ((x 11)))) dX12_go_317 fX12_75 (Or.inl rfl) a126 (by decide) rfl rfl (Nat.le_of_ble_eq_true rfl) rfl (fun h132 a133 e134 l135 s136 => ?_)
            have f137 := (e134 37 (by decide)).trans f130
            have sm138 := Sm.put sm131 e134 l135 s136 (by decide)
            refine x_goto (tgt := 188) dX12_go_320 (by decide) ?_
            have I := ih (k + 1) h132 (by omega) (by omega) sm138 (by rw [show w27F (tkf tv q) (k + 1) = (((27 * (w27F (tkf tv q) k)) + ((nI (tv (q + k)))).toInt64) - 96) by rw [w27F, if_pos (by omega)], show n10F (tkf tv q) (k + 1) = (n10F (tkf tv q) k) by rw [n10F, if_neg (by omega)]]; exact a133)
            rw [show gdF (tkf tv q) (k + 1) = false by rw [gdF, show isLb ((tkf tv q) k) = true from hl, show isLb ((tkf tv q) 0) = false from hL, hg]; rfl] at I
            refine x_perm (lv2 := [(3, .int (if false = true then 1 else 0)), (2, .int 0), (0, .ref 36)]) [0, 2, 3] rfl ?_
            exact I
          · refine x_aload_n dX12_go_293 3 rfl ?_
            refine x_bipush (v := 10) dX12_go_294 (by decide) ?_
            refine x_aload_n dX12_go_296 3 rfl ?_
            refine x_get (v := .int (n10F (tkf tv q) k)) dX12_go_297 fX12_98 a126 (by decide) rfl ?_
            refine x_imul dX12_go_300 ?_
            refine x_iload dX12_go_301 1 rfl ?_
            refine x_iadd dX12_go_303 ?_
            refine x_bipush (v := 48) dX12_go_304 (by decide) ?_
            refine x_isub dX12_go_306 ?_
            refine x_put (fs2 := (MO ((x 0)) ((x 1)) ((x 2)) ((x 3)) ((nI tn)) ((nI (q + k))) ((nI q)) knd ((((10 * (n10F (tkf tv q) k)) + (nI (tv (q + k)))) - 48)) sgn flt plc ((((27 * (w27F (tkf tv q) k)) + ((nI (tv (q + k)))).toInt64) - 96)) tld ((x 4)) ((x 5)) ((x 6)) ((x 7)) ((x 8)) ((x 9)) ((x 10)) ((x 11)))) dX12_go_307 fX12_98 (Or.inl rfl) a126 (by decide) rfl rfl (Nat.le_of_ble_eq_true rfl) rfl (fun h139 a140 e141 l142 s143 => ?_)
            have f144 := (e141 37 (by decide)).trans f130
            have sm145 := Sm.put sm131 e141 l142 s143 (by decide)
            refine x_aload_n dX12_go_310 3 rfl ?_
            refine x_dup dX12_go_311 rfl ?_
            refine x_get (v := .int (nI (q + k))) dX12_go_312 fX12_75 a140 (by decide) rfl ?_
            refine x_iconst (v := 1) dX12_go_315 (by decide) ?_
            refine x_iaddN (a := (q + k)) (b := 1) dX12_go_316 ?_
            refine x_put (fs2 := (MO ((x 0)) ((x 1)) ((x 2)) ((x 3)) ((nI tn)) ((nI ((q + k) + 1))) ((nI q)) knd ((((10 * (n10F (tkf tv q) k)) + (nI (tv (q + k)))) - 48)) sgn flt plc ((((27 * (w27F (tkf tv q) k)) + ((nI (tv (q + k)))).toInt64) - 96)) tld ((x 4)) ((x 5)) ((x 6)) ((x 7)) ((x 8)) ((x 9)) ((x 10)) ((x 11)))) dX12_go_317 fX12_75 (Or.inl rfl) a140 (by decide) rfl rfl (Nat.le_of_ble_eq_true rfl) rfl (fun h146 a147 e148 l149 s150 => ?_)
            have f151 := (e148 37 (by decide)).trans f144
            have sm152 := Sm.put sm145 e148 l149 s150 (by decide)
            refine x_goto (tgt := 188) dX12_go_320 (by decide) ?_
            have I := ih (k + 1) h146 (by omega) (by omega) sm152 (by rw [show w27F (tkf tv q) (k + 1) = (((27 * (w27F (tkf tv q) k)) + ((nI (tv (q + k)))).toInt64) - 96) by rw [w27F, if_pos (by omega)], show n10F (tkf tv q) (k + 1) = (((10 * (n10F (tkf tv q) k)) + (nI (tv (q + k)))) - 48) by rw [n10F, if_pos (by omega)]]; exact a147)
            rw [show gdF (tkf tv q) (k + 1) = false by rw [gdF, show isLb ((tkf tv q) k) = true from hl, show isLb ((tkf tv q) 0) = false from hL, hg]; rfl] at I
            refine x_perm (lv2 := [(3, .int (if false = true then 1 else 0)), (2, .int 0), (0, .ref 36)]) [0, 2, 3] rfl ?_
            exact I
      · rw [if_neg hg]
        refine x_aload_n dX12_go_188 2 rfl ?_
        refine x_aload_n dX12_go_189 2 rfl ?_
        refine x_get (v := .int (nI (q + k))) dX12_go_190 fX12_75 f36 (by decide) rfl ?_
        refine x_callV (rf' := 0) (rl' := 0) [.int (nI (q + k))] [] dX12_go_193 vX12_101 Y_X12_byteAt f36 (by decide) rfl rfl (Nat.le_of_ble_eq_true rfl) (Nat.le_of_ble_eq_true rfl) (by decide) (by decide) (c_byteAtM (tv := tv) (by omega) htn hmt f36 g37) (fun _ _ e101 => ?_)
        cases e101
        rw [e9]
        refine x_callS (rf' := 0) (rl' := 0) [.int (nI (tv (q + k)))] [] dX12_go_196 vX12_84 Y_X12_isLetter rfl rfl (Nat.le_of_ble_eq_true rfl) (Nat.le_of_ble_eq_true rfl) (by decide) (by decide) (c_isLetterM hvk) (fun _ _ e102 => ?_)
        cases e102
        rw [show (if isLb ((tv (q + k))) = true then (1 : Int32) else 0) = 1 from if_pos hl]
        refine x_if_ne (tgt := 216) dX12_go_199 (by decide) (fun c_199 => ?_) (fun c_199 => absurd c_199 (by decide))
        refine x_aload_n dX12_go_216 2 rfl ?_
        refine x_get (v := .ref 37) dX12_go_217 fX12_7 f36 (by decide) rfl ?_
        refine x_aload_n dX12_go_220 2 rfl ?_
        refine x_get (v := .int (nI (q + k))) dX12_go_221 fX12_75 f36 (by decide) rfl ?_
        refine x_ialdN (i := (q + k)) dX12_go_224 g37 (by decide) (by omega) (by decide) ?_
        rw [hmt (q + k) (by omega)]
        refine x_istore (lv2 := [(4, .int (nI (tv (q + k)))), (3, .int 0), (2, .int 0), (0, .ref 36)]) dX12_go_225 (by decide) rfl ?_
        refine x_iload_n dX12_go_227 1 rfl ?_
        refine x_if_eq (tgt := 244) dX12_go_228 (by decide) (fun c_228 => ?_) (fun c_228 => absurd (by decide) c_228)
        refine x_iconst (v := 0) dX12_go_244 (by decide) ?_
        refine x_istore_n (lv2 := [(3, .int 0), (4, .int (nI (tv (q + k)))), (2, .int 0), (0, .ref 36)]) dX12_go_245 (by decide) rfl ?_
        refine x_aload_n dX12_go_246 3 rfl ?_
        refine x_get (v := .int (nI (q + k))) dX12_go_247 fX12_75 f36 (by decide) rfl ?_
        refine x_aload_n dX12_go_250 3 rfl ?_
        refine x_get (v := .int (nI q)) dX12_go_251 fX12_78 f36 (by decide) rfl ?_
        refine x_isubN (a := (q + k)) (b := q) (by omega) dX12_go_254 ?_
        refine x_bipush (v := 8) dX12_go_255 (by decide) ?_
        refine x_icmp_geN (tgt := 280) (a := ((q + k) - q)) (b := 8) (by omega) (by omega) dX12_go_257 (by decide) (fun c_257 => ?_) (fun c_257 => ?_)
        · refine x_aload_n dX12_go_280 3 rfl ?_
          refine x_get (v := .int (nI (q + k))) dX12_go_281 fX12_75 f36 (by decide) rfl ?_
          refine x_aload_n dX12_go_284 3 rfl ?_
          refine x_get (v := .int (nI q)) dX12_go_285 fX12_78 f36 (by decide) rfl ?_
          refine x_isubN (a := (q + k)) (b := q) (by omega) dX12_go_288 ?_
          refine x_iconst (v := 5) dX12_go_289 (by decide) ?_
          refine x_icmp_geN (tgt := 310) (a := ((q + k) - q)) (b := 5) (by omega) (by omega) dX12_go_290 (by decide) (fun c_290 => ?_) (fun c_290 => ?_)
          · refine x_aload_n dX12_go_310 3 rfl ?_
            refine x_dup dX12_go_311 rfl ?_
            refine x_get (v := .int (nI (q + k))) dX12_go_312 fX12_75 f36 (by decide) rfl ?_
            refine x_iconst (v := 1) dX12_go_315 (by decide) ?_
            refine x_iaddN (a := (q + k)) (b := 1) dX12_go_316 ?_
            refine x_put (fs2 := (MO ((x 0)) ((x 1)) ((x 2)) ((x 3)) ((nI tn)) ((nI ((q + k) + 1))) ((nI q)) knd ((n10F (tkf tv q) k)) sgn flt plc ((w27F (tkf tv q) k)) tld ((x 4)) ((x 5)) ((x 6)) ((x 7)) ((x 8)) ((x 9)) ((x 10)) ((x 11)))) dX12_go_317 fX12_75 (Or.inl rfl) f36 (by decide) rfl rfl (Nat.le_of_ble_eq_true rfl) rfl (fun h103 a104 e105 l106 s107 => ?_)
            have f108 := (e105 37 (by decide)).trans g37
            have sm109 := Sm.put sm e105 l106 s107 (by decide)
            refine x_goto (tgt := 188) dX12_go_320 (by decide) ?_
            have I := ih (k + 1) h103 (by omega) (by omega) sm109 (by rw [show w27F (tkf tv q) (k + 1) = (w27F (tkf tv q) k) by rw [w27F, if_neg (by omega)], show n10F (tkf tv q) (k + 1) = (n10F (tkf tv q) k) by rw [n10F, if_neg (by omega)]]; exact a104)
            rw [show gdF (tkf tv q) (k + 1) = false by rw [gdF, show isLb ((tkf tv q) k) = true from hl, show isLb ((tkf tv q) 0) = false from hL, bfalse hg]; rfl] at I
            refine x_perm (lv2 := [(3, .int (if false = true then 1 else 0)), (2, .int 0), (0, .ref 36)]) [0, 2, 3] rfl ?_
            exact I
          · refine x_aload_n dX12_go_293 3 rfl ?_
            refine x_bipush (v := 10) dX12_go_294 (by decide) ?_
            refine x_aload_n dX12_go_296 3 rfl ?_
            refine x_get (v := .int (n10F (tkf tv q) k)) dX12_go_297 fX12_98 f36 (by decide) rfl ?_
            refine x_imul dX12_go_300 ?_
            refine x_iload dX12_go_301 1 rfl ?_
            refine x_iadd dX12_go_303 ?_
            refine x_bipush (v := 48) dX12_go_304 (by decide) ?_
            refine x_isub dX12_go_306 ?_
            refine x_put (fs2 := (MO ((x 0)) ((x 1)) ((x 2)) ((x 3)) ((nI tn)) ((nI (q + k))) ((nI q)) knd ((((10 * (n10F (tkf tv q) k)) + (nI (tv (q + k)))) - 48)) sgn flt plc ((w27F (tkf tv q) k)) tld ((x 4)) ((x 5)) ((x 6)) ((x 7)) ((x 8)) ((x 9)) ((x 10)) ((x 11)))) dX12_go_307 fX12_98 (Or.inl rfl) f36 (by decide) rfl rfl (Nat.le_of_ble_eq_true rfl) rfl (fun h110 a111 e112 l113 s114 => ?_)
            have f115 := (e112 37 (by decide)).trans g37
            have sm116 := Sm.put sm e112 l113 s114 (by decide)
            refine x_aload_n dX12_go_310 3 rfl ?_
            refine x_dup dX12_go_311 rfl ?_
            refine x_get (v := .int (nI (q + k))) dX12_go_312 fX12_75 a111 (by decide) rfl ?_
            refine x_iconst (v := 1) dX12_go_315 (by decide) ?_
            refine x_iaddN (a := (q + k)) (b := 1) dX12_go_316 ?_
            refine x_put (fs2 := (MO ((x 0)) ((x 1)) ((x 2)) ((x 3)) ((nI tn)) ((nI ((q + k) + 1))) ((nI q)) knd ((((10 * (n10F (tkf tv q) k)) + (nI (tv (q + k)))) - 48)) sgn flt plc ((w27F (tkf tv q) k)) tld ((x 4)) ((x 5)) ((x 6)) ((x 7)) ((x 8)) ((x 9)) ((x 10)) ((x 11)))) dX12_go_317 fX12_75 (Or.inl rfl) a111 (by decide) rfl rfl (Nat.le_of_ble_eq_true rfl) rfl (fun h117 a118 e119 l120 s121 => ?_)
            have f122 := (e119 37 (by decide)).trans f115
            have sm123 := Sm.put sm116 e119 l120 s121 (by decide)
            refine x_goto (tgt := 188) dX12_go_320 (by decide) ?_
            have I := ih (k + 1) h117 (by omega) (by omega) sm123 (by rw [show w27F (tkf tv q) (k + 1) = (w27F (tkf tv q) k) by rw [w27F, if_neg (by omega)], show n10F (tkf tv q) (k + 1) = (((10 * (n10F (tkf tv q) k)) + (nI (tv (q + k)))) - 48) by rw [n10F, if_pos (by omega)]]; exact a118)
            rw [show gdF (tkf tv q) (k + 1) = false by rw [gdF, show isLb ((tkf tv q) k) = true from hl, show isLb ((tkf tv q) 0) = false from hL, bfalse hg]; rfl] at I
            refine x_perm (lv2 := [(3, .int (if false = true then 1 else 0)), (2, .int 0), (0, .ref 36)]) [0, 2, 3] rfl ?_
            exact I
        · refine x_aload_n dX12_go_260 3 rfl ?_
          refine x_ldc2 (v := 27) dX12_go_261 kX12_105 ?_
          refine x_aload_n dX12_go_264 3 rfl ?_
          refine x_get (v := .long (w27F (tkf tv q) k)) dX12_go_265 fX12_94 f36 (by decide) rfl ?_
          refine x_lmul dX12_go_268 ?_
          refine x_iload dX12_go_269 1 rfl ?_
          refine x_i2l dX12_go_271 ?_
          refine x_ladd dX12_go_272 ?_
          refine x_ldc2 (v := 96) dX12_go_273 kX12_107 ?_
          refine x_lsub dX12_go_276 ?_
          refine x_put (fs2 := (MO ((x 0)) ((x 1)) ((x 2)) ((x 3)) ((nI tn)) ((nI (q + k))) ((nI q)) knd ((n10F (tkf tv q) k)) sgn flt plc ((((27 * (w27F (tkf tv q) k)) + ((nI (tv (q + k)))).toInt64) - 96)) tld ((x 4)) ((x 5)) ((x 6)) ((x 7)) ((x 8)) ((x 9)) ((x 10)) ((x 11)))) dX12_go_277 fX12_94 (Or.inl rfl) f36 (by decide) rfl rfl (Nat.le_of_ble_eq_true rfl) rfl (fun h124 a125 e126 l127 s128 => ?_)
          have f129 := (e126 37 (by decide)).trans g37
          have sm130 := Sm.put sm e126 l127 s128 (by decide)
          refine x_aload_n dX12_go_280 3 rfl ?_
          refine x_get (v := .int (nI (q + k))) dX12_go_281 fX12_75 a125 (by decide) rfl ?_
          refine x_aload_n dX12_go_284 3 rfl ?_
          refine x_get (v := .int (nI q)) dX12_go_285 fX12_78 a125 (by decide) rfl ?_
          refine x_isubN (a := (q + k)) (b := q) (by omega) dX12_go_288 ?_
          refine x_iconst (v := 5) dX12_go_289 (by decide) ?_
          refine x_icmp_geN (tgt := 310) (a := ((q + k) - q)) (b := 5) (by omega) (by omega) dX12_go_290 (by decide) (fun c_290 => ?_) (fun c_290 => ?_)
          · refine x_aload_n dX12_go_310 3 rfl ?_
            refine x_dup dX12_go_311 rfl ?_
            refine x_get (v := .int (nI (q + k))) dX12_go_312 fX12_75 a125 (by decide) rfl ?_
            refine x_iconst (v := 1) dX12_go_315 (by decide) ?_
            refine x_iaddN (a := (q + k)) (b := 1) dX12_go_316 ?_
            refine x_put (fs2 := (MO ((x 0)) ((x 1)) ((x 2)) ((x 3)) ((nI tn)) ((nI ((q + k) + 1))) ((nI q)) knd ((n10F (tkf tv q) k)) sgn flt plc ((((27 * (w27F (tkf tv q) k)) + ((nI (tv (q + k)))).toInt64) - 96)) tld ((x 4)) ((x 5)) ((x 6)) ((x 7)) ((x 8)) ((x 9)) ((x 10)) ((x 11)))) dX12_go_317 fX12_75 (Or.inl rfl) a125 (by decide) rfl rfl (Nat.le_of_ble_eq_true rfl) rfl (fun h131 a132 e133 l134 s135 => ?_)
            have f136 := (e133 37 (by decide)).trans f129
            have sm137 := Sm.put sm130 e133 l134 s135 (by decide)
            refine x_goto (tgt := 188) dX12_go_320 (by decide) ?_
            have I := ih (k + 1) h131 (by omega) (by omega) sm137 (by rw [show w27F (tkf tv q) (k + 1) = (((27 * (w27F (tkf tv q) k)) + ((nI (tv (q + k)))).toInt64) - 96) by rw [w27F, if_pos (by omega)], show n10F (tkf tv q) (k + 1) = (n10F (tkf tv q) k) by rw [n10F, if_neg (by omega)]]; exact a132)
            rw [show gdF (tkf tv q) (k + 1) = false by rw [gdF, show isLb ((tkf tv q) k) = true from hl, show isLb ((tkf tv q) 0) = false from hL, bfalse hg]; rfl] at I
            refine x_perm (lv2 := [(3, .int (if false = true then 1 else 0)), (2, .int 0), (0, .ref 36)]) [0, 2, 3] rfl ?_
            exact I
          · refine x_aload_n dX12_go_293 3 rfl ?_
            refine x_bipush (v := 10) dX12_go_294 (by decide) ?_
            refine x_aload_n dX12_go_296 3 rfl ?_
            refine x_get (v := .int (n10F (tkf tv q) k)) dX12_go_297 fX12_98 a125 (by decide) rfl ?_
            refine x_imul dX12_go_300 ?_
            refine x_iload dX12_go_301 1 rfl ?_
            refine x_iadd dX12_go_303 ?_
            refine x_bipush (v := 48) dX12_go_304 (by decide) ?_
            refine x_isub dX12_go_306 ?_
            refine x_put (fs2 := (MO ((x 0)) ((x 1)) ((x 2)) ((x 3)) ((nI tn)) ((nI (q + k))) ((nI q)) knd ((((10 * (n10F (tkf tv q) k)) + (nI (tv (q + k)))) - 48)) sgn flt plc ((((27 * (w27F (tkf tv q) k)) + ((nI (tv (q + k)))).toInt64) - 96)) tld ((x 4)) ((x 5)) ((x 6)) ((x 7)) ((x 8)) ((x 9)) ((x 10)) ((x 11)))) dX12_go_307 fX12_98 (Or.inl rfl) a125 (by decide) rfl rfl (Nat.le_of_ble_eq_true rfl) rfl (fun h138 a139 e140 l141 s142 => ?_)
            have f143 := (e140 37 (by decide)).trans f129
            have sm144 := Sm.put sm130 e140 l141 s142 (by decide)
            refine x_aload_n dX12_go_310 3 rfl ?_
            refine x_dup dX12_go_311 rfl ?_
            refine x_get (v := .int (nI (q + k))) dX12_go_312 fX12_75 a139 (by decide) rfl ?_
            refine x_iconst (v := 1) dX12_go_315 (by decide) ?_
            refine x_iaddN (a := (q + k)) (b := 1) dX12_go_316 ?_
            refine x_put (fs2 := (MO ((x 0)) ((x 1)) ((x 2)) ((x 3)) ((nI tn)) ((nI ((q + k) + 1))) ((nI q)) knd ((((10 * (n10F (tkf tv q) k)) + (nI (tv (q + k)))) - 48)) sgn flt plc ((((27 * (w27F (tkf tv q) k)) + ((nI (tv (q + k)))).toInt64) - 96)) tld ((x 4)) ((x 5)) ((x 6)) ((x 7)) ((x 8)) ((x 9)) ((x 10)) ((x 11)))) dX12_go_317 fX12_75 (Or.inl rfl) a139 (by decide) rfl rfl (Nat.le_of_ble_eq_true rfl) rfl (fun h145 a146 e147 l148 s149 => ?_)
            have f150 := (e147 37 (by decide)).trans f143
            have sm151 := Sm.put sm144 e147 l148 s149 (by decide)
            refine x_goto (tgt := 188) dX12_go_320 (by decide) ?_
            have I := ih (k + 1) h145 (by omega) (by omega) sm151 (by rw [show w27F (tkf tv q) (k + 1) = (((27 * (w27F (tkf tv q) k)) + ((nI (tv (q + k)))).toInt64) - 96) by rw [w27F, if_pos (by omega)], show n10F (tkf tv q) (k + 1) = (((10 * (n10F (tkf tv q) k)) + (nI (tv (q + k)))) - 48) by rw [n10F, if_pos (by omega)]]; exact a146)
            rw [show gdF (tkf tv q) (k + 1) = false by rw [gdF, show isLb ((tkf tv q) k) = true from hl, show isLb ((tkf tv q) 0) = false from hL, bfalse hg]; rfl] at I
            refine x_perm (lv2 := [(3, .int (if false = true then 1 else 0)), (2, .int 0), (0, .ref 36)]) [0, 2, 3] rfl ?_
            exact I
    · have hd : isDb (tv (q + k)) = true := isDb_iff.mpr (by have := isAb_iff.mp hk2; have := mt isLb_iff.mpr hl; omega)
      by_cases hg : gdF (tkf tv q) k = true
      · rw [if_pos hg]
        refine x_aload_n dX12_go_188 2 rfl ?_
        refine x_aload_n dX12_go_189 2 rfl ?_
        refine x_get (v := .int (nI (q + k))) dX12_go_190 fX12_75 f36 (by decide) rfl ?_
        refine x_callV (rf' := 0) (rl' := 0) [.int (nI (q + k))] [] dX12_go_193 vX12_101 Y_X12_byteAt f36 (by decide) rfl rfl (Nat.le_of_ble_eq_true rfl) (Nat.le_of_ble_eq_true rfl) (by decide) (by decide) (c_byteAtM (tv := tv) (by omega) htn hmt f36 g37) (fun _ _ e101 => ?_)
        cases e101
        rw [e9]
        refine x_callS (rf' := 0) (rl' := 0) [.int (nI (tv (q + k)))] [] dX12_go_196 vX12_84 Y_X12_isLetter rfl rfl (Nat.le_of_ble_eq_true rfl) (Nat.le_of_ble_eq_true rfl) (by decide) (by decide) (c_isLetterM hvk) (fun _ _ e102 => ?_)
        cases e102
        rw [show (if isLb ((tv (q + k))) = true then (1 : Int32) else 0) = 0 from if_neg hl]
        refine x_if_ne (tgt := 216) dX12_go_199 (by decide) (fun c_199 => absurd (by decide) c_199) (fun c_199 => ?_)
        refine x_aload_n dX12_go_202 2 rfl ?_
        refine x_aload_n dX12_go_203 2 rfl ?_
        refine x_get (v := .int (nI (q + k))) dX12_go_204 fX12_75 f36 (by decide) rfl ?_
        refine x_callV (rf' := 0) (rl' := 0) [.int (nI (q + k))] [] dX12_go_207 vX12_101 Y_X12_byteAt f36 (by decide) rfl rfl (Nat.le_of_ble_eq_true rfl) (Nat.le_of_ble_eq_true rfl) (by decide) (by decide) (c_byteAtM (tv := tv) (by omega) htn hmt f36 g37) (fun _ _ e103 => ?_)
        cases e103
        rw [e9]
        refine x_callS (rf' := 0) (rl' := 0) [.int (nI (tv (q + k)))] [] dX12_go_210 vX12_88 Y_X12_isDigit rfl rfl (Nat.le_of_ble_eq_true rfl) (Nat.le_of_ble_eq_true rfl) (by decide) (by decide) (c_isDigitM hvk) (fun _ _ e104 => ?_)
        cases e104
        rw [show (if isDb ((tv (q + k))) = true then (1 : Int32) else 0) = 1 from if_pos hd]
        refine x_if_eq (tgt := 323) dX12_go_213 (by decide) (fun c_213 => absurd c_213 (by decide)) (fun c_213 => ?_)
        refine x_aload_n dX12_go_216 2 rfl ?_
        refine x_get (v := .ref 37) dX12_go_217 fX12_7 f36 (by decide) rfl ?_
        refine x_aload_n dX12_go_220 2 rfl ?_
        refine x_get (v := .int (nI (q + k))) dX12_go_221 fX12_75 f36 (by decide) rfl ?_
        refine x_ialdN (i := (q + k)) dX12_go_224 g37 (by decide) (by omega) (by decide) ?_
        rw [hmt (q + k) (by omega)]
        refine x_istore (lv2 := [(4, .int (nI (tv (q + k)))), (3, .int 1), (2, .int 0), (0, .ref 36)]) dX12_go_225 (by decide) rfl ?_
        refine x_iload_n dX12_go_227 1 rfl ?_
        refine x_if_eq (tgt := 244) dX12_go_228 (by decide) (fun c_228 => absurd c_228 (by decide)) (fun c_228 => ?_)
        refine x_iload dX12_go_231 0 rfl ?_
        refine x_callS (rf' := 0) (rl' := 0) [.int (nI (tv (q + k)))] [] dX12_go_233 vX12_84 Y_X12_isLetter rfl rfl (Nat.le_of_ble_eq_true rfl) (Nat.le_of_ble_eq_true rfl) (by decide) (by decide) (c_isLetterM hvk) (fun _ _ e105 => ?_)
        cases e105
        rw [show (if isLb ((tv (q + k))) = true then (1 : Int32) else 0) = 0 from if_neg hl]
        refine x_iload_n dX12_go_236 2 rfl ?_
        refine x_icmp_ne (tgt := 244) dX12_go_237 (by decide) (fun c_237 => absurd (by decide) c_237) (fun c_237 => ?_)
        refine x_iconst (v := 1) dX12_go_240 (by decide) ?_
        refine x_goto (tgt := 245) dX12_go_241 (by decide) ?_
        refine x_istore_n (lv2 := [(3, .int 1), (4, .int (nI (tv (q + k)))), (2, .int 0), (0, .ref 36)]) dX12_go_245 (by decide) rfl ?_
        refine x_aload_n dX12_go_246 3 rfl ?_
        refine x_get (v := .int (nI (q + k))) dX12_go_247 fX12_75 f36 (by decide) rfl ?_
        refine x_aload_n dX12_go_250 3 rfl ?_
        refine x_get (v := .int (nI q)) dX12_go_251 fX12_78 f36 (by decide) rfl ?_
        refine x_isubN (a := (q + k)) (b := q) (by omega) dX12_go_254 ?_
        refine x_bipush (v := 8) dX12_go_255 (by decide) ?_
        refine x_icmp_geN (tgt := 280) (a := ((q + k) - q)) (b := 8) (by omega) (by omega) dX12_go_257 (by decide) (fun c_257 => ?_) (fun c_257 => ?_)
        · refine x_aload_n dX12_go_280 3 rfl ?_
          refine x_get (v := .int (nI (q + k))) dX12_go_281 fX12_75 f36 (by decide) rfl ?_
          refine x_aload_n dX12_go_284 3 rfl ?_
          refine x_get (v := .int (nI q)) dX12_go_285 fX12_78 f36 (by decide) rfl ?_
          refine x_isubN (a := (q + k)) (b := q) (by omega) dX12_go_288 ?_
          refine x_iconst (v := 5) dX12_go_289 (by decide) ?_
          refine x_icmp_geN (tgt := 310) (a := ((q + k) - q)) (b := 5) (by omega) (by omega) dX12_go_290 (by decide) (fun c_290 => ?_) (fun c_290 => ?_)
          · refine x_aload_n dX12_go_310 3 rfl ?_
            refine x_dup dX12_go_311 rfl ?_
            refine x_get (v := .int (nI (q + k))) dX12_go_312 fX12_75 f36 (by decide) rfl ?_
            refine x_iconst (v := 1) dX12_go_315 (by decide) ?_
            refine x_iaddN (a := (q + k)) (b := 1) dX12_go_316 ?_
            refine x_put (fs2 := (MO ((x 0)) ((x 1)) ((x 2)) ((x 3)) ((nI tn)) ((nI ((q + k) + 1))) ((nI q)) knd ((n10F (tkf tv q) k)) sgn flt plc ((w27F (tkf tv q) k)) tld ((x 4)) ((x 5)) ((x 6)) ((x 7)) ((x 8)) ((x 9)) ((x 10)) ((x 11)))) dX12_go_317 fX12_75 (Or.inl rfl) f36 (by decide) rfl rfl (Nat.le_of_ble_eq_true rfl) rfl (fun h106 a107 e108 l109 s110 => ?_)
            have f111 := (e108 37 (by decide)).trans g37
            have sm112 := Sm.put sm e108 l109 s110 (by decide)
            refine x_goto (tgt := 188) dX12_go_320 (by decide) ?_
            have I := ih (k + 1) h106 (by omega) (by omega) sm112 (by rw [show w27F (tkf tv q) (k + 1) = (w27F (tkf tv q) k) by rw [w27F, if_neg (by omega)], show n10F (tkf tv q) (k + 1) = (n10F (tkf tv q) k) by rw [n10F, if_neg (by omega)]]; exact a107)
            rw [show gdF (tkf tv q) (k + 1) = true by rw [gdF, show isLb ((tkf tv q) k) = false from bfalse hl, show isLb ((tkf tv q) 0) = false from hL, hg]; rfl] at I
            refine x_perm (lv2 := [(3, .int (if true = true then 1 else 0)), (2, .int 0), (0, .ref 36)]) [0, 2, 3] rfl ?_
            exact I
          · refine x_aload_n dX12_go_293 3 rfl ?_
            refine x_bipush (v := 10) dX12_go_294 (by decide) ?_
            refine x_aload_n dX12_go_296 3 rfl ?_
            refine x_get (v := .int (n10F (tkf tv q) k)) dX12_go_297 fX12_98 f36 (by decide) rfl ?_
            refine x_imul dX12_go_300 ?_
            refine x_iload dX12_go_301 1 rfl ?_
            refine x_iadd dX12_go_303 ?_
            refine x_bipush (v := 48) dX12_go_304 (by decide) ?_
            refine x_isub dX12_go_306 ?_
            refine x_put (fs2 := (MO ((x 0)) ((x 1)) ((x 2)) ((x 3)) ((nI tn)) ((nI (q + k))) ((nI q)) knd ((((10 * (n10F (tkf tv q) k)) + (nI (tv (q + k)))) - 48)) sgn flt plc ((w27F (tkf tv q) k)) tld ((x 4)) ((x 5)) ((x 6)) ((x 7)) ((x 8)) ((x 9)) ((x 10)) ((x 11)))) dX12_go_307 fX12_98 (Or.inl rfl) f36 (by decide) rfl rfl (Nat.le_of_ble_eq_true rfl) rfl (fun h113 a114 e115 l116 s117 => ?_)
            have f118 := (e115 37 (by decide)).trans g37
            have sm119 := Sm.put sm e115 l116 s117 (by decide)
            refine x_aload_n dX12_go_310 3 rfl ?_
            refine x_dup dX12_go_311 rfl ?_
            refine x_get (v := .int (nI (q + k))) dX12_go_312 fX12_75 a114 (by decide) rfl ?_
            refine x_iconst (v := 1) dX12_go_315 (by decide) ?_
            refine x_iaddN (a := (q + k)) (b := 1) dX12_go_316 ?_
            refine x_put (fs2 := (MO ((x 0)) ((x 1)) ((x 2)) ((x 3)) ((nI tn)) ((nI ((q + k) + 1))) ((nI q)) knd ((((10 * (n10F (tkf tv q) k)) + (nI (tv (q + k)))) - 48)) sgn flt plc ((w27F (tkf tv q) k)) tld ((x 4)) ((x 5)) ((x 6)) ((x 7)) ((x 8)) ((x 9)) ((x 10)) ((x 11)))) dX12_go_317 fX12_75 (Or.inl rfl) a114 (by decide) rfl rfl (Nat.le_of_ble_eq_true rfl) rfl (fun h120 a121 e122 l123 s124 => ?_)
            have f125 := (e122 37 (by decide)).trans f118
            have sm126 := Sm.put sm119 e122 l123 s124 (by decide)
            refine x_goto (tgt := 188) dX12_go_320 (by decide) ?_
            have I := ih (k + 1) h120 (by omega) (by omega) sm126 (by rw [show w27F (tkf tv q) (k + 1) = (w27F (tkf tv q) k) by rw [w27F, if_neg (by omega)], show n10F (tkf tv q) (k + 1) = (((10 * (n10F (tkf tv q) k)) + (nI (tv (q + k)))) - 48) by rw [n10F, if_pos (by omega)]]; exact a121)
            rw [show gdF (tkf tv q) (k + 1) = true by rw [gdF, show isLb ((tkf tv q) k) = false from bfalse hl, show isLb ((tkf tv q) 0) = false from hL, hg]; rfl] at I
            refine x_perm (lv2 := [(3, .int (if true = true then 1 else 0)), (2, .int 0), (0, .ref 36)]) [0, 2, 3] rfl ?_
            exact I
        · refine x_aload_n dX12_go_260 3 rfl ?_
          refine x_ldc2 (v := 27) dX12_go_261 kX12_105 ?_
          refine x_aload_n dX12_go_264 3 rfl ?_
          refine x_get (v := .long (w27F (tkf tv q) k)) dX12_go_265 fX12_94 f36 (by decide) rfl ?_
          refine x_lmul dX12_go_268 ?_
          refine x_iload dX12_go_269 1 rfl ?_
          refine x_i2l dX12_go_271 ?_
          refine x_ladd dX12_go_272 ?_
          refine x_ldc2 (v := 96) dX12_go_273 kX12_107 ?_
          refine x_lsub dX12_go_276 ?_
          refine x_put (fs2 := (MO ((x 0)) ((x 1)) ((x 2)) ((x 3)) ((nI tn)) ((nI (q + k))) ((nI q)) knd ((n10F (tkf tv q) k)) sgn flt plc ((((27 * (w27F (tkf tv q) k)) + ((nI (tv (q + k)))).toInt64) - 96)) tld ((x 4)) ((x 5)) ((x 6)) ((x 7)) ((x 8)) ((x 9)) ((x 10)) ((x 11)))) dX12_go_277 fX12_94 (Or.inl rfl) f36 (by decide) rfl rfl (Nat.le_of_ble_eq_true rfl) rfl (fun h127 a128 e129 l130 s131 => ?_)
          have f132 := (e129 37 (by decide)).trans g37
          have sm133 := Sm.put sm e129 l130 s131 (by decide)
          refine x_aload_n dX12_go_280 3 rfl ?_
          refine x_get (v := .int (nI (q + k))) dX12_go_281 fX12_75 a128 (by decide) rfl ?_
          refine x_aload_n dX12_go_284 3 rfl ?_
          refine x_get (v := .int (nI q)) dX12_go_285 fX12_78 a128 (by decide) rfl ?_
          refine x_isubN (a := (q + k)) (b := q) (by omega) dX12_go_288 ?_
          refine x_iconst (v := 5) dX12_go_289 (by decide) ?_
          refine x_icmp_geN (tgt := 310) (a := ((q + k) - q)) (b := 5) (by omega) (by omega) dX12_go_290 (by decide) (fun c_290 => ?_) (fun c_290 => ?_)
          · refine x_aload_n dX12_go_310 3 rfl ?_
            refine x_dup dX12_go_311 rfl ?_
            refine x_get (v := .int (nI (q + k))) dX12_go_312 fX12_75 a128 (by decide) rfl ?_
            refine x_iconst (v := 1) dX12_go_315 (by decide) ?_
            refine x_iaddN (a := (q + k)) (b := 1) dX12_go_316 ?_
            refine x_put (fs2 := (MO ((x 0)) ((x 1)) ((x 2)) ((x 3)) ((nI tn)) ((nI ((q + k) + 1))) ((nI q)) knd ((n10F (tkf tv q) k)) sgn flt plc ((((27 * (w27F (tkf tv q) k)) + ((nI (tv (q + k)))).toInt64) - 96)) tld ((x 4)) ((x 5)) ((x 6)) ((x 7)) ((x 8)) ((x 9)) ((x 10)) ((x 11)))) dX12_go_317 fX12_75 (Or.inl rfl) a128 (by decide) rfl rfl (Nat.le_of_ble_eq_true rfl) rfl (fun h134 a135 e136 l137 s138 => ?_)
            have f139 := (e136 37 (by decide)).trans f132
            have sm140 := Sm.put sm133 e136 l137 s138 (by decide)
            refine x_goto (tgt := 188) dX12_go_320 (by decide) ?_
            have I := ih (k + 1) h134 (by omega) (by omega) sm140 (by rw [show w27F (tkf tv q) (k + 1) = (((27 * (w27F (tkf tv q) k)) + ((nI (tv (q + k)))).toInt64) - 96) by rw [w27F, if_pos (by omega)], show n10F (tkf tv q) (k + 1) = (n10F (tkf tv q) k) by rw [n10F, if_neg (by omega)]]; exact a135)
            rw [show gdF (tkf tv q) (k + 1) = true by rw [gdF, show isLb ((tkf tv q) k) = false from bfalse hl, show isLb ((tkf tv q) 0) = false from hL, hg]; rfl] at I
            refine x_perm (lv2 := [(3, .int (if true = true then 1 else 0)), (2, .int 0), (0, .ref 36)]) [0, 2, 3] rfl ?_
            exact I
          · refine x_aload_n dX12_go_293 3 rfl ?_
            refine x_bipush (v := 10) dX12_go_294 (by decide) ?_
            refine x_aload_n dX12_go_296 3 rfl ?_
            refine x_get (v := .int (n10F (tkf tv q) k)) dX12_go_297 fX12_98 a128 (by decide) rfl ?_
            refine x_imul dX12_go_300 ?_
            refine x_iload dX12_go_301 1 rfl ?_
            refine x_iadd dX12_go_303 ?_
            refine x_bipush (v := 48) dX12_go_304 (by decide) ?_
            refine x_isub dX12_go_306 ?_
            refine x_put (fs2 := (MO ((x 0)) ((x 1)) ((x 2)) ((x 3)) ((nI tn)) ((nI (q + k))) ((nI q)) knd ((((10 * (n10F (tkf tv q) k)) + (nI (tv (q + k)))) - 48)) sgn flt plc ((((27 * (w27F (tkf tv q) k)) + ((nI (tv (q + k)))).toInt64) - 96)) tld ((x 4)) ((x 5)) ((x 6)) ((x 7)) ((x 8)) ((x 9)) ((x 10)) ((x 11)))) dX12_go_307 fX12_98 (Or.inl rfl) a128 (by decide) rfl rfl (Nat.le_of_ble_eq_true rfl) rfl (fun h141 a142 e143 l144 s145 => ?_)
            have f146 := (e143 37 (by decide)).trans f132
            have sm147 := Sm.put sm133 e143 l144 s145 (by decide)
            refine x_aload_n dX12_go_310 3 rfl ?_
            refine x_dup dX12_go_311 rfl ?_
            refine x_get (v := .int (nI (q + k))) dX12_go_312 fX12_75 a142 (by decide) rfl ?_
            refine x_iconst (v := 1) dX12_go_315 (by decide) ?_
            refine x_iaddN (a := (q + k)) (b := 1) dX12_go_316 ?_
            refine x_put (fs2 := (MO ((x 0)) ((x 1)) ((x 2)) ((x 3)) ((nI tn)) ((nI ((q + k) + 1))) ((nI q)) knd ((((10 * (n10F (tkf tv q) k)) + (nI (tv (q + k)))) - 48)) sgn flt plc ((((27 * (w27F (tkf tv q) k)) + ((nI (tv (q + k)))).toInt64) - 96)) tld ((x 4)) ((x 5)) ((x 6)) ((x 7)) ((x 8)) ((x 9)) ((x 10)) ((x 11)))) dX12_go_317 fX12_75 (Or.inl rfl) a142 (by decide) rfl rfl (Nat.le_of_ble_eq_true rfl) rfl (fun h148 a149 e150 l151 s152 => ?_)
            have f153 := (e150 37 (by decide)).trans f146
            have sm154 := Sm.put sm147 e150 l151 s152 (by decide)
            refine x_goto (tgt := 188) dX12_go_320 (by decide) ?_
            have I := ih (k + 1) h148 (by omega) (by omega) sm154 (by rw [show w27F (tkf tv q) (k + 1) = (((27 * (w27F (tkf tv q) k)) + ((nI (tv (q + k)))).toInt64) - 96) by rw [w27F, if_pos (by omega)], show n10F (tkf tv q) (k + 1) = (((10 * (n10F (tkf tv q) k)) + (nI (tv (q + k)))) - 48) by rw [n10F, if_pos (by omega)]]; exact a149)
            rw [show gdF (tkf tv q) (k + 1) = true by rw [gdF, show isLb ((tkf tv q) k) = false from bfalse hl, show isLb ((tkf tv q) 0) = false from hL, hg]; rfl] at I
            refine x_perm (lv2 := [(3, .int (if true = true then 1 else 0)), (2, .int 0), (0, .ref 36)]) [0, 2, 3] rfl ?_
            exact I
      · rw [if_neg hg]
        refine x_aload_n dX12_go_188 2 rfl ?_
        refine x_aload_n dX12_go_189 2 rfl ?_
        refine x_get (v := .int (nI (q + k))) dX12_go_190 fX12_75 f36 (by decide) rfl ?_
        refine x_callV (rf' := 0) (rl' := 0) [.int (nI (q + k))] [] dX12_go_193 vX12_101 Y_X12_byteAt f36 (by decide) rfl rfl (Nat.le_of_ble_eq_true rfl) (Nat.le_of_ble_eq_true rfl) (by decide) (by decide) (c_byteAtM (tv := tv) (by omega) htn hmt f36 g37) (fun _ _ e101 => ?_)
        cases e101
        rw [e9]
        refine x_callS (rf' := 0) (rl' := 0) [.int (nI (tv (q + k)))] [] dX12_go_196 vX12_84 Y_X12_isLetter rfl rfl (Nat.le_of_ble_eq_true rfl) (Nat.le_of_ble_eq_true rfl) (by decide) (by decide) (c_isLetterM hvk) (fun _ _ e102 => ?_)
        cases e102
        rw [show (if isLb ((tv (q + k))) = true then (1 : Int32) else 0) = 0 from if_neg hl]
        refine x_if_ne (tgt := 216) dX12_go_199 (by decide) (fun c_199 => absurd (by decide) c_199) (fun c_199 => ?_)
        refine x_aload_n dX12_go_202 2 rfl ?_
        refine x_aload_n dX12_go_203 2 rfl ?_
        refine x_get (v := .int (nI (q + k))) dX12_go_204 fX12_75 f36 (by decide) rfl ?_
        refine x_callV (rf' := 0) (rl' := 0) [.int (nI (q + k))] [] dX12_go_207 vX12_101 Y_X12_byteAt f36 (by decide) rfl rfl (Nat.le_of_ble_eq_true rfl) (Nat.le_of_ble_eq_true rfl) (by decide) (by decide) (c_byteAtM (tv := tv) (by omega) htn hmt f36 g37) (fun _ _ e103 => ?_)
        cases e103
        rw [e9]
        refine x_callS (rf' := 0) (rl' := 0) [.int (nI (tv (q + k)))] [] dX12_go_210 vX12_88 Y_X12_isDigit rfl rfl (Nat.le_of_ble_eq_true rfl) (Nat.le_of_ble_eq_true rfl) (by decide) (by decide) (c_isDigitM hvk) (fun _ _ e104 => ?_)
        cases e104
        rw [show (if isDb ((tv (q + k))) = true then (1 : Int32) else 0) = 1 from if_pos hd]
        refine x_if_eq (tgt := 323) dX12_go_213 (by decide) (fun c_213 => absurd c_213 (by decide)) (fun c_213 => ?_)
        refine x_aload_n dX12_go_216 2 rfl ?_
        refine x_get (v := .ref 37) dX12_go_217 fX12_7 f36 (by decide) rfl ?_
        refine x_aload_n dX12_go_220 2 rfl ?_
        refine x_get (v := .int (nI (q + k))) dX12_go_221 fX12_75 f36 (by decide) rfl ?_
        refine x_ialdN (i := (q + k)) dX12_go_224 g37 (by decide) (by omega) (by decide) ?_
        rw [hmt (q + k) (by omega)]
        refine x_istore (lv2 := [(4, .int (nI (tv (q + k)))), (3, .int 0), (2, .int 0), (0, .ref 36)]) dX12_go_225 (by decide) rfl ?_
        refine x_iload_n dX12_go_227 1 rfl ?_
        refine x_if_eq (tgt := 244) dX12_go_228 (by decide) (fun c_228 => ?_) (fun c_228 => absurd (by decide) c_228)
        refine x_iconst (v := 0) dX12_go_244 (by decide) ?_
        refine x_istore_n (lv2 := [(3, .int 0), (4, .int (nI (tv (q + k)))), (2, .int 0), (0, .ref 36)]) dX12_go_245 (by decide) rfl ?_
        refine x_aload_n dX12_go_246 3 rfl ?_
        refine x_get (v := .int (nI (q + k))) dX12_go_247 fX12_75 f36 (by decide) rfl ?_
        refine x_aload_n dX12_go_250 3 rfl ?_
        refine x_get (v := .int (nI q)) dX12_go_251 fX12_78 f36 (by decide) rfl ?_
        refine x_isubN (a := (q + k)) (b := q) (by omega) dX12_go_254 ?_
        refine x_bipush (v := 8) dX12_go_255 (by decide) ?_
        refine x_icmp_geN (tgt := 280) (a := ((q + k) - q)) (b := 8) (by omega) (by omega) dX12_go_257 (by decide) (fun c_257 => ?_) (fun c_257 => ?_)
        · refine x_aload_n dX12_go_280 3 rfl ?_
          refine x_get (v := .int (nI (q + k))) dX12_go_281 fX12_75 f36 (by decide) rfl ?_
          refine x_aload_n dX12_go_284 3 rfl ?_
          refine x_get (v := .int (nI q)) dX12_go_285 fX12_78 f36 (by decide) rfl ?_
          refine x_isubN (a := (q + k)) (b := q) (by omega) dX12_go_288 ?_
          refine x_iconst (v := 5) dX12_go_289 (by decide) ?_
          refine x_icmp_geN (tgt := 310) (a := ((q + k) - q)) (b := 5) (by omega) (by omega) dX12_go_290 (by decide) (fun c_290 => ?_) (fun c_290 => ?_)
          · refine x_aload_n dX12_go_310 3 rfl ?_
            refine x_dup dX12_go_311 rfl ?_
            refine x_get (v := .int (nI (q + k))) dX12_go_312 fX12_75 f36 (by decide) rfl ?_
            refine x_iconst (v := 1) dX12_go_315 (by decide) ?_
            refine x_iaddN (a := (q + k)) (b := 1) dX12_go_316 ?_
            refine x_put (fs2 := (MO ((x 0)) ((x 1)) ((x 2)) ((x 3)) ((nI tn)) ((nI ((q + k) + 1))) ((nI q)) knd ((n10F (tkf tv q) k)) sgn flt plc ((w27F (tkf tv q) k)) tld ((x 4)) ((x 5)) ((x 6)) ((x 7)) ((x 8)) ((x 9)) ((x 10)) ((x 11)))) dX12_go_317 fX12_75 (Or.inl rfl) f36 (by decide) rfl rfl (Nat.le_of_ble_eq_true rfl) rfl (fun h105 a106 e107 l108 s109 => ?_)
            have f110 := (e107 37 (by decide)).trans g37
            have sm111 := Sm.put sm e107 l108 s109 (by decide)
            refine x_goto (tgt := 188) dX12_go_320 (by decide) ?_
            have I := ih (k + 1) h105 (by omega) (by omega) sm111 (by rw [show w27F (tkf tv q) (k + 1) = (w27F (tkf tv q) k) by rw [w27F, if_neg (by omega)], show n10F (tkf tv q) (k + 1) = (n10F (tkf tv q) k) by rw [n10F, if_neg (by omega)]]; exact a106)
            rw [show gdF (tkf tv q) (k + 1) = false by rw [gdF, show isLb ((tkf tv q) k) = false from bfalse hl, show isLb ((tkf tv q) 0) = false from hL, bfalse hg]; rfl] at I
            refine x_perm (lv2 := [(3, .int (if false = true then 1 else 0)), (2, .int 0), (0, .ref 36)]) [0, 2, 3] rfl ?_
            exact I
          · refine x_aload_n dX12_go_293 3 rfl ?_
            refine x_bipush (v := 10) dX12_go_294 (by decide) ?_
            refine x_aload_n dX12_go_296 3 rfl ?_
            refine x_get (v := .int (n10F (tkf tv q) k)) dX12_go_297 fX12_98 f36 (by decide) rfl ?_
            refine x_imul dX12_go_300 ?_
            refine x_iload dX12_go_301 1 rfl ?_
            refine x_iadd dX12_go_303 ?_
            refine x_bipush (v := 48) dX12_go_304 (by decide) ?_
            refine x_isub dX12_go_306 ?_
            refine x_put (fs2 := (MO ((x 0)) ((x 1)) ((x 2)) ((x 3)) ((nI tn)) ((nI (q + k))) ((nI q)) knd ((((10 * (n10F (tkf tv q) k)) + (nI (tv (q + k)))) - 48)) sgn flt plc ((w27F (tkf tv q) k)) tld ((x 4)) ((x 5)) ((x 6)) ((x 7)) ((x 8)) ((x 9)) ((x 10)) ((x 11)))) dX12_go_307 fX12_98 (Or.inl rfl) f36 (by decide) rfl rfl (Nat.le_of_ble_eq_true rfl) rfl (fun h112 a113 e114 l115 s116 => ?_)
            have f117 := (e114 37 (by decide)).trans g37
            have sm118 := Sm.put sm e114 l115 s116 (by decide)
            refine x_aload_n dX12_go_310 3 rfl ?_
            refine x_dup dX12_go_311 rfl ?_
            refine x_get (v := .int (nI (q + k))) dX12_go_312 fX12_75 a113 (by decide) rfl ?_
            refine x_iconst (v := 1) dX12_go_315 (by decide) ?_
            refine x_iaddN (a := (q + k)) (b := 1) dX12_go_316 ?_
            refine x_put (fs2 := (MO ((x 0)) ((x 1)) ((x 2)) ((x 3)) ((nI tn)) ((nI ((q + k) + 1))) ((nI q)) knd ((((10 * (n10F (tkf tv q) k)) + (nI (tv (q + k)))) - 48)) sgn flt plc ((w27F (tkf tv q) k)) tld ((x 4)) ((x 5)) ((x 6)) ((x 7)) ((x 8)) ((x 9)) ((x 10)) ((x 11)))) dX12_go_317 fX12_75 (Or.inl rfl) a113 (by decide) rfl rfl (Nat.le_of_ble_eq_true rfl) rfl (fun h119 a120 e121 l122 s123 => ?_)
            have f124 := (e121 37 (by decide)).trans f117
            have sm125 := Sm.put sm118 e121 l122 s123 (by decide)
            refine x_goto (tgt := 188) dX12_go_320 (by decide) ?_
            have I := ih (k + 1) h119 (by omega) (by omega) sm125 (by rw [show w27F (tkf tv q) (k + 1) = (w27F (tkf tv q) k) by rw [w27F, if_neg (by omega)], show n10F (tkf tv q) (k + 1) = (((10 * (n10F (tkf tv q) k)) + (nI (tv (q + k)))) - 48) by rw [n10F, if_pos (by omega)]]; exact a120)
            rw [show gdF (tkf tv q) (k + 1) = false by rw [gdF, show isLb ((tkf tv q) k) = false from bfalse hl, show isLb ((tkf tv q) 0) = false from hL, bfalse hg]; rfl] at I
            refine x_perm (lv2 := [(3, .int (if false = true then 1 else 0)), (2, .int 0), (0, .ref 36)]) [0, 2, 3] rfl ?_
            exact I
        · refine x_aload_n dX12_go_260 3 rfl ?_
          refine x_ldc2 (v := 27) dX12_go_261 kX12_105 ?_
          refine x_aload_n dX12_go_264 3 rfl ?_
          refine x_get (v := .long (w27F (tkf tv q) k)) dX12_go_265 fX12_94 f36 (by decide) rfl ?_
          refine x_lmul dX12_go_268 ?_
          refine x_iload dX12_go_269 1 rfl ?_
          refine x_i2l dX12_go_271 ?_
          refine x_ladd dX12_go_272 ?_
          refine x_ldc2 (v := 96) dX12_go_273 kX12_107 ?_
          refine x_lsub dX12_go_276 ?_
          refine x_put (fs2 := (MO ((x 0)) ((x 1)) ((x 2)) ((x 3)) ((nI tn)) ((nI (q + k))) ((nI q)) knd ((n10F (tkf tv q) k)) sgn flt plc ((((27 * (w27F (tkf tv q) k)) + ((nI (tv (q + k)))).toInt64) - 96)) tld ((x 4)) ((x 5)) ((x 6)) ((x 7)) ((x 8)) ((x 9)) ((x 10)) ((x 11)))) dX12_go_277 fX12_94 (Or.inl rfl) f36 (by decide) rfl rfl (Nat.le_of_ble_eq_true rfl) rfl (fun h126 a127 e128 l129 s130 => ?_)
          have f131 := (e128 37 (by decide)).trans g37
          have sm132 := Sm.put sm e128 l129 s130 (by decide)
          refine x_aload_n dX12_go_280 3 rfl ?_
          refine x_get (v := .int (nI (q + k))) dX12_go_281 fX12_75 a127 (by decide) rfl ?_
          refine x_aload_n dX12_go_284 3 rfl ?_
          refine x_get (v := .int (nI q)) dX12_go_285 fX12_78 a127 (by decide) rfl ?_
          refine x_isubN (a := (q + k)) (b := q) (by omega) dX12_go_288 ?_
          refine x_iconst (v := 5) dX12_go_289 (by decide) ?_
          refine x_icmp_geN (tgt := 310) (a := ((q + k) - q)) (b := 5) (by omega) (by omega) dX12_go_290 (by decide) (fun c_290 => ?_) (fun c_290 => ?_)
          · refine x_aload_n dX12_go_310 3 rfl ?_
            refine x_dup dX12_go_311 rfl ?_
            refine x_get (v := .int (nI (q + k))) dX12_go_312 fX12_75 a127 (by decide) rfl ?_
            refine x_iconst (v := 1) dX12_go_315 (by decide) ?_
            refine x_iaddN (a := (q + k)) (b := 1) dX12_go_316 ?_
            refine x_put (fs2 := (MO ((x 0)) ((x 1)) ((x 2)) ((x 3)) ((nI tn)) ((nI ((q + k) + 1))) ((nI q)) knd ((n10F (tkf tv q) k)) sgn flt plc ((((27 * (w27F (tkf tv q) k)) + ((nI (tv (q + k)))).toInt64) - 96)) tld ((x 4)) ((x 5)) ((x 6)) ((x 7)) ((x 8)) ((x 9)) ((x 10)) ((x 11)))) dX12_go_317 fX12_75 (Or.inl rfl) a127 (by decide) rfl rfl (Nat.le_of_ble_eq_true rfl) rfl (fun h133 a134 e135 l136 s137 => ?_)
            have f138 := (e135 37 (by decide)).trans f131
            have sm139 := Sm.put sm132 e135 l136 s137 (by decide)
            refine x_goto (tgt := 188) dX12_go_320 (by decide) ?_
            have I := ih (k + 1) h133 (by omega) (by omega) sm139 (by rw [show w27F (tkf tv q) (k + 1) = (((27 * (w27F (tkf tv q) k)) + ((nI (tv (q + k)))).toInt64) - 96) by rw [w27F, if_pos (by omega)], show n10F (tkf tv q) (k + 1) = (n10F (tkf tv q) k) by rw [n10F, if_neg (by omega)]]; exact a134)
            rw [show gdF (tkf tv q) (k + 1) = false by rw [gdF, show isLb ((tkf tv q) k) = false from bfalse hl, show isLb ((tkf tv q) 0) = false from hL, bfalse hg]; rfl] at I
            refine x_perm (lv2 := [(3, .int (if false = true then 1 else 0)), (2, .int 0), (0, .ref 36)]) [0, 2, 3] rfl ?_
            exact I
          · refine x_aload_n dX12_go_293 3 rfl ?_
            refine x_bipush (v := 10) dX12_go_294 (by decide) ?_
            refine x_aload_n dX12_go_296 3 rfl ?_
            refine x_get (v := .int (n10F (tkf tv q) k)) dX12_go_297 fX12_98 a127 (by decide) rfl ?_
            refine x_imul dX12_go_300 ?_
            refine x_iload dX12_go_301 1 rfl ?_
            refine x_iadd dX12_go_303 ?_
            refine x_bipush (v := 48) dX12_go_304 (by decide) ?_
            refine x_isub dX12_go_306 ?_
            refine x_put (fs2 := (MO ((x 0)) ((x 1)) ((x 2)) ((x 3)) ((nI tn)) ((nI (q + k))) ((nI q)) knd ((((10 * (n10F (tkf tv q) k)) + (nI (tv (q + k)))) - 48)) sgn flt plc ((((27 * (w27F (tkf tv q) k)) + ((nI (tv (q + k)))).toInt64) - 96)) tld ((x 4)) ((x 5)) ((x 6)) ((x 7)) ((x 8)) ((x 9)) ((x 10)) ((x 11)))) dX12_go_307 fX12_98 (Or.inl rfl) a127 (by decide) rfl rfl (Nat.le_of_ble_eq_true rfl) rfl (fun h140 a141 e142 l143 s144 => ?_)
            have f145 := (e142 37 (by decide)).trans f131
            have sm146 := Sm.put sm132 e142 l143 s144 (by decide)
            refine x_aload_n dX12_go_310 3 rfl ?_
            refine x_dup dX12_go_311 rfl ?_
            refine x_get (v := .int (nI (q + k))) dX12_go_312 fX12_75 a141 (by decide) rfl ?_
            refine x_iconst (v := 1) dX12_go_315 (by decide) ?_
            refine x_iaddN (a := (q + k)) (b := 1) dX12_go_316 ?_
            refine x_put (fs2 := (MO ((x 0)) ((x 1)) ((x 2)) ((x 3)) ((nI tn)) ((nI ((q + k) + 1))) ((nI q)) knd ((((10 * (n10F (tkf tv q) k)) + (nI (tv (q + k)))) - 48)) sgn flt plc ((((27 * (w27F (tkf tv q) k)) + ((nI (tv (q + k)))).toInt64) - 96)) tld ((x 4)) ((x 5)) ((x 6)) ((x 7)) ((x 8)) ((x 9)) ((x 10)) ((x 11)))) dX12_go_317 fX12_75 (Or.inl rfl) a141 (by decide) rfl rfl (Nat.le_of_ble_eq_true rfl) rfl (fun h147 a148 e149 l150 s151 => ?_)
            have f152 := (e149 37 (by decide)).trans f145
            have sm153 := Sm.put sm146 e149 l150 s151 (by decide)
            refine x_goto (tgt := 188) dX12_go_320 (by decide) ?_
            have I := ih (k + 1) h147 (by omega) (by omega) sm153 (by rw [show w27F (tkf tv q) (k + 1) = (((27 * (w27F (tkf tv q) k)) + ((nI (tv (q + k)))).toInt64) - 96) by rw [w27F, if_pos (by omega)], show n10F (tkf tv q) (k + 1) = (((10 * (n10F (tkf tv q) k)) + (nI (tv (q + k)))) - 48) by rw [n10F, if_pos (by omega)]]; exact a148)
            rw [show gdF (tkf tv q) (k + 1) = false by rw [gdF, show isLb ((tkf tv q) k) = false from bfalse hl, show isLb ((tkf tv q) 0) = false from hL, bfalse hg]; rfl] at I
            refine x_perm (lv2 := [(3, .int (if false = true then 1 else 0)), (2, .int 0), (0, .ref 36)]) [0, 2, 3] rfl ?_
            exact I

theorem kd_at {tn i q : Nat} {tv : Nat → Nat} (hP : tkP tn tv i = q) : (q < tkM tn → kd tn tv i = tkK tn tv q ∧ plc' tn tv i = q ∧ wn tn tv i = tkW tn tv q ∧ nv tn tv i = tkV tn tv q ∧ tkP tn tv (i + 1) = tkS tn tv (tkE tn tv q)) ∧ (tkM tn ≤ q → kd tn tv i = 22 ∧ plc' tn tv i = tkM tn) := by
  subst hP
  exact ⟨fun h => ⟨if_pos h, if_pos h, rfl, rfl, rfl⟩, fun h => ⟨if_neg (by omega), if_neg (by omega)⟩⟩
theorem TkM.end {tn i : Nat} {tv : Nat → Nat} {too frm knd num sgn : Int32} {wrd : Int64} (h : kd tn tv i = 22 ∧ plc' tn tv i = tkM tn) (e1 : frm = nI (tkM tn)) (e2 : knd = if tn ≤ 600 then 0 else 1) : TkM tn tv i too frm knd num sgn wrd := ⟨by rw [h.2]; exact e1, fun _ => e2, fun z => absurd h.1 z, fun z => by omega, fun z => by omega, fun z => by omega, fun z => by omega, fun z => by omega⟩
theorem TkM.mk {tn i q p : Nat} {tv : Nat → Nat} {too frm knd num sgn : Int32} {wrd : Int64} (h : kd tn tv i = tkK tn tv q ∧ plc' tn tv i = q ∧ wn tn tv i = tkW tn tv q ∧ nv tn tv i = tkV tn tv q ∧ tkP tn tv (i + 1) = tkS tn tv (tkE tn tv q)) (e1 : frm = nI q) (e2 : too = nI p) (hp : p ≤ tn) (e3 : tkE tn tv q = p) (k1 : tkK tn tv q ≤ 17 → knd = 2 ∧ wrd = lN (tkW tn tv q)) (k2 : tkK tn tv q = 18 → knd = 3 ∧ num = nI (tkV tn tv q)) (k3 : tkK tn tv q = 19 → knd = 4 ∧ sgn = 59) (k4 : tkK tn tv q = 20 → knd = 4 ∧ sgn = 58) (k5 : tkK tn tv q = 21 → knd = 1) : TkM tn tv i too frm knd num sgn wrd := by
  obtain ⟨h1, h2, h3, h4, h5⟩ := h
  have hk := tkK_le tn tv q
  rw [TkM, h1, h2, h3, h4]
  exact ⟨e1, fun z => by omega, fun _ => ⟨p, e2, hp, by rw [h5, e3]⟩, k1, k2, k3, k4, k5⟩

set_option maxRecDepth 100000 in
set_option maxHeartbeats 4000000 in
theorem c_go {G : GT} {h : List PE} {tn : Nat} {tv : Nat → Nat} {mtp : Nat → Int32} {flt plc tld frm knd num sgn : Int32} {wrd : Int64} {x : Nat → Int32} {p i : Nat} (htn : tn ≤ 640) (hv : ∀ j, j < tn → tv j < 256) (hmt : ∀ j, j < tn → mtp j = nI (tv j)) (hp : p ≤ tn) (hP : tkP tn tv i = tkS tn tv p) (f36 : h[36]? = some (cO 12 (MO ((x 0)) ((x 1)) ((x 2)) ((x 3)) ((nI tn)) ((nI p)) frm knd num sgn flt plc wrd tld ((x 4)) ((x 5)) ((x 6)) ((x 7)) ((x 8)) ((x 9)) ((x 10)) ((x 11))))) (f37 : h[37]? = some (cI 640 mtp)) : CT G mX12_go 1 21 [.ref 36] h (fun o => o.1 = none ∧ MRd o.2 tn tv i x flt plc tld ∧ Sm [36] h o.2) := by
  show X (NF G) G mX12_go 1 21 0 [(0, .ref 36)] [] h _
  refine l_goB htn hv hmt hp f37 (fun h1 sm1 g36 => ?_) _ 0 h rfl (Nat.zero_le _) Sm.rf f36
  have g37 := sm1.at f37 (by decide)
  obtain ⟨q, hqe⟩ : ∃ q, q = tkS tn tv p := ⟨_, rfl⟩
  rw [← hqe] at g36
  have hq := (tkS_le (tv := tv) hp).2.1
  rw [← hqe] at hq hP
  obtain ⟨K1, K2⟩ := kd_at hP
  have hM : (tn ≤ 600 → tkM tn = tn) ∧ (¬ tn ≤ 600 → tkM tn = 600) := ⟨fun z => if_pos z, fun z => if_neg z⟩
  refine x_aload_n dX12_go_52 0 rfl ?_
  refine x_aload_n dX12_go_53 0 rfl ?_
  refine x_get (v := .int (nI q)) dX12_go_54 fX12_75 g36 (by decide) rfl ?_
  refine x_put (fs2 := (MO ((x 0)) ((x 1)) ((x 2)) ((x 3)) ((nI tn)) ((nI q)) ((nI q)) knd num sgn flt plc wrd tld ((x 4)) ((x 5)) ((x 6)) ((x 7)) ((x 8)) ((x 9)) ((x 10)) ((x 11)))) dX12_go_57 fX12_78 (Or.inl rfl) g36 (by decide) rfl rfl (Nat.le_of_ble_eq_true rfl) rfl (fun h101 a102 e103 l104 s105 => ?_)
  have f106 := (e103 37 (by decide)).trans g37
  have sm107 := Sm.put sm1 e103 l104 s105 (by decide)
  refine x_aload_n dX12_go_60 0 rfl ?_
  refine x_get (v := .int (nI tn)) dX12_go_61 fX12_72 a102 (by decide) rfl ?_
  refine x_sipush (v := 600) dX12_go_64 (by decide) ?_
  refine x_icmp_leN (tgt := 93) (a := tn) (b := 600) (by omega) (by omega) dX12_go_67 (by decide) (fun c_67 => ?_) (fun c_67 => ?_)
  · refine x_aload_n dX12_go_93 0 rfl ?_
    refine x_get (v := .int (nI q)) dX12_go_94 fX12_75 a102 (by decide) rfl ?_
    refine x_aload_n dX12_go_97 0 rfl ?_
    refine x_get (v := .int (nI tn)) dX12_go_98 fX12_72 a102 (by decide) rfl ?_
    refine x_icmp_ltN (tgt := 110) (a := q) (b := tn) (by omega) (by omega) dX12_go_101 (by decide) (fun c_101 => ?_) (fun c_101 => ?_)
    · refine x_aload_n dX12_go_110 0 rfl ?_
      refine x_get (v := .ref 37) dX12_go_111 fX12_7 a102 (by decide) rfl ?_
      refine x_aload_n dX12_go_114 0 rfl ?_
      refine x_get (v := .int (nI q)) dX12_go_115 fX12_75 a102 (by decide) rfl ?_
      refine x_ialdN (i := q) dX12_go_118 f106 (by decide) (by omega) (by decide) ?_
      rw [hmt q (by omega)]
      have hvq := hv q (by omega)
      refine x_istore_n (lv2 := [(1, .int (nI (tv q))), (0, .ref 36)]) dX12_go_119 (by decide) rfl ?_
      refine x_iload_n dX12_go_120 0 rfl ?_
      refine x_callS (rf' := 0) (rl' := 0) [.int (nI (tv q))] [] dX12_go_121 vX12_84 Y_X12_isLetter rfl rfl (Nat.le_of_ble_eq_true rfl) (Nat.le_of_ble_eq_true rfl) (by decide) (by decide) (c_isLetterM hvq) (fun _ _ e108 => ?_)
      cases e108
      by_cases hl : isLb (tv q) = true
      · rw [if_pos hl]
        refine x_if_ne (tgt := 171) dX12_go_124 (by decide) (fun c_124 => ?_) (fun c_124 => absurd c_124 (by decide))
        refine x_iload_n dX12_go_171 0 rfl ?_
        refine x_callS (rf' := 0) (rl' := 0) [.int (nI (tv q))] [] dX12_go_172 vX12_84 Y_X12_isLetter rfl rfl (Nat.le_of_ble_eq_true rfl) (Nat.le_of_ble_eq_true rfl) (by decide) (by decide) (c_isLetterM hvq) (fun _ _ e109 => ?_)
        cases e109
        rw [if_pos hl]
        refine x_istore_n (lv2 := [(2, .int 1), (1, .int (nI (tv q))), (0, .ref 36)]) dX12_go_175 (by decide) rfl ?_
        refine x_iconst (v := 1) dX12_go_176 (by decide) ?_
        refine x_istore_n (lv2 := [(3, .int 1), (2, .int 1), (1, .int (nI (tv q))), (0, .ref 36)]) dX12_go_177 (by decide) rfl ?_
        refine x_aload_n dX12_go_178 3 rfl ?_
        refine x_lconst (v := 0) dX12_go_179 (by decide) ?_
        refine x_put (fs2 := (MO ((x 0)) ((x 1)) ((x 2)) ((x 3)) ((nI tn)) ((nI q)) ((nI q)) knd num sgn flt plc 0 tld ((x 4)) ((x 5)) ((x 6)) ((x 7)) ((x 8)) ((x 9)) ((x 10)) ((x 11)))) dX12_go_180 fX12_94 (Or.inl rfl) a102 (by decide) rfl rfl (Nat.le_of_ble_eq_true rfl) rfl (fun h110 a111 e112 l113 s114 => ?_)
        have f115 := (e112 37 (by decide)).trans f106
        have sm116 := Sm.put sm107 e112 l113 s114 (by decide)
        refine x_aload_n dX12_go_183 3 rfl ?_
        refine x_iconst (v := 0) dX12_go_184 (by decide) ?_
        refine x_put (fs2 := (MO ((x 0)) ((x 1)) ((x 2)) ((x 3)) ((nI tn)) ((nI q)) ((nI q)) knd 0 sgn flt plc 0 tld ((x 4)) ((x 5)) ((x 6)) ((x 7)) ((x 8)) ((x 9)) ((x 10)) ((x 11)))) dX12_go_185 fX12_98 (Or.inl rfl) a111 (by decide) rfl rfl (Nat.le_of_ble_eq_true rfl) rfl (fun h117 a118 e119 l120 s121 => ?_)
        have f122 := (e119 37 (by decide)).trans f115
        have sm123 := Sm.put sm116 e119 l120 s121 (by decide)
        have ha : isAb (tv q) = true := by unfold isAb; rw [hl]; rfl
        have g37r := f122
        refine x_perm (lv2 := [(3, .int (if gdF (tkf tv q) 0 = true then 1 else 0)), (2, .int 1), (0, .ref 36)]) [0, 1, 3] rfl ?_
        refine l_goR1 htn hv hmt (by omega) ha hl g37r (fun h2 sm2 p36 => ?_) _ 0 h117 rfl (Nat.zero_le _) Sm.rf a118
        obtain ⟨n1, n2, n3, n4⟩ := tkN_spec (show q < tn by omega) ha
        obtain ⟨R1, R2⟩ := run_mod (show q < tn by omega) ha
        rw [if_pos hl] at R1 R2
        have eE : tkE tn tv q = q + tkN tn tv q := by unfold tkE; rw [if_pos ha]
        have sm3 := sm123.tr sm2
        by_cases hg : gdF (tkf tv q) (tkN tn tv q) = true
        · rw [if_pos hg]
          refine x_aload_n dX12_go_323 2 rfl ?_
          refine x_iload_n dX12_go_324 0 rfl ?_
          refine x_if_eq (tgt := 350) dX12_go_325 (by decide) (fun c_325 => absurd c_325 (by decide)) (fun c_325 => ?_)
          refine x_aload_n dX12_go_328 2 rfl ?_
          refine x_get (v := .int (nI (q + tkN tn tv q))) dX12_go_329 fX12_75 p36 (by decide) rfl ?_
          refine x_aload_n dX12_go_332 2 rfl ?_
          refine x_get (v := .int (nI q)) dX12_go_333 fX12_78 p36 (by decide) rfl ?_
          refine x_isubN (a := (q + tkN tn tv q)) (b := q) (by omega) dX12_go_336 ?_
          refine x_iload_n dX12_go_337 1 rfl ?_
          refine x_if_eq (tgt := 346) dX12_go_338 (by decide) (fun c_338 => absurd c_338 (by decide)) (fun c_338 => ?_)
          refine x_bipush (v := 8) dX12_go_341 (by decide) ?_
          refine x_goto (tgt := 347) dX12_go_343 (by decide) ?_
          refine x_icmp_leN (tgt := 354) (a := ((q + tkN tn tv q) - q)) (b := 8) (by omega) (by omega) dX12_go_347 (by decide) (fun c_347 => ?_) (fun c_347 => ?_)
          · refine x_iload_n dX12_go_354 1 rfl ?_
            refine x_if_eq (tgt := 362) dX12_go_355 (by decide) (fun c_355 => absurd c_355 (by decide)) (fun c_355 => ?_)
            refine x_iconst (v := 2) dX12_go_358 (by decide) ?_
            refine x_goto (tgt := 363) dX12_go_359 (by decide) ?_
            refine x_put (fs2 := (MO ((x 0)) ((x 1)) ((x 2)) ((x 3)) ((nI tn)) ((nI (q + tkN tn tv q))) ((nI q)) 2 ((n10F (tkf tv q) (tkN tn tv q))) sgn flt plc ((w27F (tkf tv q) (tkN tn tv q))) tld ((x 4)) ((x 5)) ((x 6)) ((x 7)) ((x 8)) ((x 9)) ((x 10)) ((x 11)))) dX12_go_363 fX12_81 (Or.inl rfl) p36 (by decide) rfl rfl (Nat.le_of_ble_eq_true rfl) rfl (fun h124 a125 e126 l127 s128 => ?_)
            have sm129 := Sm.put sm3 e126 l127 s128 (by decide)
            exact x_vret dX12_go_366 rfl ⟨rfl, ⟨_, _, _, _, _, _, a125, TkM.mk (K1 (by have := hM.1; have := hM.2; omega)) rfl rfl (by omega) eE (fun _ => ⟨rfl, ((R2 hg (by omega)).1 hl).2⟩) (fun z => by have := ((R2 hg (by omega)).1 hl).1; omega) (fun z => by have := ((R2 hg (by omega)).1 hl).1; omega) (fun z => by have := ((R2 hg (by omega)).1 hl).1; omega) (fun z => by have := ((R2 hg (by omega)).1 hl).1; omega)⟩, sm129⟩
          · refine x_iconst (v := 1) dX12_go_350 (by decide) ?_
            refine x_goto (tgt := 363) dX12_go_351 (by decide) ?_
            refine x_put (fs2 := (MO ((x 0)) ((x 1)) ((x 2)) ((x 3)) ((nI tn)) ((nI (q + tkN tn tv q))) ((nI q)) 1 ((n10F (tkf tv q) (tkN tn tv q))) sgn flt plc ((w27F (tkf tv q) (tkN tn tv q))) tld ((x 4)) ((x 5)) ((x 6)) ((x 7)) ((x 8)) ((x 9)) ((x 10)) ((x 11)))) dX12_go_363 fX12_81 (Or.inl rfl) p36 (by decide) rfl rfl (Nat.le_of_ble_eq_true rfl) rfl (fun h130 a131 e132 l133 s134 => ?_)
            have sm135 := Sm.put sm3 e132 l133 s134 (by decide)
            exact x_vret dX12_go_366 rfl ⟨rfl, ⟨_, _, _, _, _, _, a131, TkM.mk (K1 (by have := hM.1; have := hM.2; omega)) rfl rfl (by omega) eE (fun z => by have := R1 (fun z => by omega); omega) (fun z => by have := R1 (fun z => by omega); omega) (fun z => by have := R1 (fun z => by omega); omega) (fun z => by have := R1 (fun z => by omega); omega) (fun _ => rfl)⟩, sm135⟩
        · rw [if_neg hg]
          refine x_aload_n dX12_go_323 2 rfl ?_
          refine x_iload_n dX12_go_324 0 rfl ?_
          refine x_if_eq (tgt := 350) dX12_go_325 (by decide) (fun c_325 => ?_) (fun c_325 => absurd (by decide) c_325)
          refine x_iconst (v := 1) dX12_go_350 (by decide) ?_
          refine x_goto (tgt := 363) dX12_go_351 (by decide) ?_
          refine x_put (fs2 := (MO ((x 0)) ((x 1)) ((x 2)) ((x 3)) ((nI tn)) ((nI (q + tkN tn tv q))) ((nI q)) 1 ((n10F (tkf tv q) (tkN tn tv q))) sgn flt plc ((w27F (tkf tv q) (tkN tn tv q))) tld ((x 4)) ((x 5)) ((x 6)) ((x 7)) ((x 8)) ((x 9)) ((x 10)) ((x 11)))) dX12_go_363 fX12_81 (Or.inl rfl) p36 (by decide) rfl rfl (Nat.le_of_ble_eq_true rfl) rfl (fun h136 a137 e138 l139 s140 => ?_)
          have sm141 := Sm.put sm3 e138 l139 s140 (by decide)
          exact x_vret dX12_go_366 rfl ⟨rfl, ⟨_, _, _, _, _, _, a137, TkM.mk (K1 (by have := hM.1; have := hM.2; omega)) rfl rfl (by omega) eE (fun z => by have := R1 (fun z => hg z.1); omega) (fun z => by have := R1 (fun z => hg z.1); omega) (fun z => by have := R1 (fun z => hg z.1); omega) (fun z => by have := R1 (fun z => hg z.1); omega) (fun _ => rfl)⟩, sm141⟩
      · rw [if_neg hl]
        refine x_if_ne (tgt := 171) dX12_go_124 (by decide) (fun c_124 => absurd (by decide) c_124) (fun c_124 => ?_)
        refine x_iload_n dX12_go_127 0 rfl ?_
        refine x_callS (rf' := 0) (rl' := 0) [.int (nI (tv q))] [] dX12_go_128 vX12_88 Y_X12_isDigit rfl rfl (Nat.le_of_ble_eq_true rfl) (Nat.le_of_ble_eq_true rfl) (by decide) (by decide) (c_isDigitM hvq) (fun _ _ e142 => ?_)
        cases e142
        by_cases hd : isDb (tv q) = true
        · rw [if_pos hd]
          refine x_if_ne (tgt := 171) dX12_go_131 (by decide) (fun c_131 => ?_) (fun c_131 => absurd c_131 (by decide))
          refine x_iload_n dX12_go_171 0 rfl ?_
          refine x_callS (rf' := 0) (rl' := 0) [.int (nI (tv q))] [] dX12_go_172 vX12_84 Y_X12_isLetter rfl rfl (Nat.le_of_ble_eq_true rfl) (Nat.le_of_ble_eq_true rfl) (by decide) (by decide) (c_isLetterM hvq) (fun _ _ e143 => ?_)
          cases e143
          rw [if_neg hl]
          refine x_istore_n (lv2 := [(2, .int 0), (1, .int (nI (tv q))), (0, .ref 36)]) dX12_go_175 (by decide) rfl ?_
          refine x_iconst (v := 1) dX12_go_176 (by decide) ?_
          refine x_istore_n (lv2 := [(3, .int 1), (2, .int 0), (1, .int (nI (tv q))), (0, .ref 36)]) dX12_go_177 (by decide) rfl ?_
          refine x_aload_n dX12_go_178 3 rfl ?_
          refine x_lconst (v := 0) dX12_go_179 (by decide) ?_
          refine x_put (fs2 := (MO ((x 0)) ((x 1)) ((x 2)) ((x 3)) ((nI tn)) ((nI q)) ((nI q)) knd num sgn flt plc 0 tld ((x 4)) ((x 5)) ((x 6)) ((x 7)) ((x 8)) ((x 9)) ((x 10)) ((x 11)))) dX12_go_180 fX12_94 (Or.inl rfl) a102 (by decide) rfl rfl (Nat.le_of_ble_eq_true rfl) rfl (fun h144 a145 e146 l147 s148 => ?_)
          have f149 := (e146 37 (by decide)).trans f106
          have sm150 := Sm.put sm107 e146 l147 s148 (by decide)
          refine x_aload_n dX12_go_183 3 rfl ?_
          refine x_iconst (v := 0) dX12_go_184 (by decide) ?_
          refine x_put (fs2 := (MO ((x 0)) ((x 1)) ((x 2)) ((x 3)) ((nI tn)) ((nI q)) ((nI q)) knd 0 sgn flt plc 0 tld ((x 4)) ((x 5)) ((x 6)) ((x 7)) ((x 8)) ((x 9)) ((x 10)) ((x 11)))) dX12_go_185 fX12_98 (Or.inl rfl) a145 (by decide) rfl rfl (Nat.le_of_ble_eq_true rfl) rfl (fun h151 a152 e153 l154 s155 => ?_)
          have f156 := (e153 37 (by decide)).trans f149
          have sm157 := Sm.put sm150 e153 l154 s155 (by decide)
          have ha : isAb (tv q) = true := by unfold isAb; rw [hd]; exact Bool.or_true _
          have g37r := f156
          refine x_perm (lv2 := [(3, .int (if gdF (tkf tv q) 0 = true then 1 else 0)), (2, .int 0), (0, .ref 36)]) [0, 1, 3] rfl ?_
          refine l_goR0 htn hv hmt (by omega) ha (bfalse hl) g37r (fun h2 sm2 p36 => ?_) _ 0 h151 rfl (Nat.zero_le _) Sm.rf a152
          obtain ⟨n1, n2, n3, n4⟩ := tkN_spec (show q < tn by omega) ha
          obtain ⟨R1, R2⟩ := run_mod (show q < tn by omega) ha
          rw [if_neg hl] at R1 R2
          have eE : tkE tn tv q = q + tkN tn tv q := by unfold tkE; rw [if_pos ha]
          have sm3 := sm157.tr sm2
          by_cases hg : gdF (tkf tv q) (tkN tn tv q) = true
          · rw [if_pos hg]
            refine x_aload_n dX12_go_323 2 rfl ?_
            refine x_iload_n dX12_go_324 0 rfl ?_
            refine x_if_eq (tgt := 350) dX12_go_325 (by decide) (fun c_325 => absurd c_325 (by decide)) (fun c_325 => ?_)
            refine x_aload_n dX12_go_328 2 rfl ?_
            refine x_get (v := .int (nI (q + tkN tn tv q))) dX12_go_329 fX12_75 p36 (by decide) rfl ?_
            refine x_aload_n dX12_go_332 2 rfl ?_
            refine x_get (v := .int (nI q)) dX12_go_333 fX12_78 p36 (by decide) rfl ?_
            refine x_isubN (a := (q + tkN tn tv q)) (b := q) (by omega) dX12_go_336 ?_
            refine x_iload_n dX12_go_337 1 rfl ?_
            refine x_if_eq (tgt := 346) dX12_go_338 (by decide) (fun c_338 => ?_) (fun c_338 => absurd (by decide) c_338)
            refine x_iconst (v := 5) dX12_go_346 (by decide) ?_
            refine x_icmp_leN (tgt := 354) (a := ((q + tkN tn tv q) - q)) (b := 5) (by omega) (by omega) dX12_go_347 (by decide) (fun c_347 => ?_) (fun c_347 => ?_)
            · refine x_iload_n dX12_go_354 1 rfl ?_
              refine x_if_eq (tgt := 362) dX12_go_355 (by decide) (fun c_355 => ?_) (fun c_355 => absurd (by decide) c_355)
              refine x_iconst (v := 3) dX12_go_362 (by decide) ?_
              refine x_put (fs2 := (MO ((x 0)) ((x 1)) ((x 2)) ((x 3)) ((nI tn)) ((nI (q + tkN tn tv q))) ((nI q)) 3 ((n10F (tkf tv q) (tkN tn tv q))) sgn flt plc ((w27F (tkf tv q) (tkN tn tv q))) tld ((x 4)) ((x 5)) ((x 6)) ((x 7)) ((x 8)) ((x 9)) ((x 10)) ((x 11)))) dX12_go_363 fX12_81 (Or.inl rfl) p36 (by decide) rfl rfl (Nat.le_of_ble_eq_true rfl) rfl (fun h158 a159 e160 l161 s162 => ?_)
              have sm163 := Sm.put sm3 e160 l161 s162 (by decide)
              exact x_vret dX12_go_366 rfl ⟨rfl, ⟨_, _, _, _, _, _, a159, TkM.mk (K1 (by have := hM.1; have := hM.2; omega)) rfl rfl (by omega) eE (fun z => by have := ((R2 hg (by omega)).2 (bfalse hl)).1; omega) (fun _ => ⟨rfl, ((R2 hg (by omega)).2 (bfalse hl)).2⟩) (fun z => by have := ((R2 hg (by omega)).2 (bfalse hl)).1; omega) (fun z => by have := ((R2 hg (by omega)).2 (bfalse hl)).1; omega) (fun z => by have := ((R2 hg (by omega)).2 (bfalse hl)).1; omega)⟩, sm163⟩
            · refine x_iconst (v := 1) dX12_go_350 (by decide) ?_
              refine x_goto (tgt := 363) dX12_go_351 (by decide) ?_
              refine x_put (fs2 := (MO ((x 0)) ((x 1)) ((x 2)) ((x 3)) ((nI tn)) ((nI (q + tkN tn tv q))) ((nI q)) 1 ((n10F (tkf tv q) (tkN tn tv q))) sgn flt plc ((w27F (tkf tv q) (tkN tn tv q))) tld ((x 4)) ((x 5)) ((x 6)) ((x 7)) ((x 8)) ((x 9)) ((x 10)) ((x 11)))) dX12_go_363 fX12_81 (Or.inl rfl) p36 (by decide) rfl rfl (Nat.le_of_ble_eq_true rfl) rfl (fun h164 a165 e166 l167 s168 => ?_)
              have sm169 := Sm.put sm3 e166 l167 s168 (by decide)
              exact x_vret dX12_go_366 rfl ⟨rfl, ⟨_, _, _, _, _, _, a165, TkM.mk (K1 (by have := hM.1; have := hM.2; omega)) rfl rfl (by omega) eE (fun z => by have := R1 (fun z => by omega); omega) (fun z => by have := R1 (fun z => by omega); omega) (fun z => by have := R1 (fun z => by omega); omega) (fun z => by have := R1 (fun z => by omega); omega) (fun _ => rfl)⟩, sm169⟩
          · rw [if_neg hg]
            refine x_aload_n dX12_go_323 2 rfl ?_
            refine x_iload_n dX12_go_324 0 rfl ?_
            refine x_if_eq (tgt := 350) dX12_go_325 (by decide) (fun c_325 => ?_) (fun c_325 => absurd (by decide) c_325)
            refine x_iconst (v := 1) dX12_go_350 (by decide) ?_
            refine x_goto (tgt := 363) dX12_go_351 (by decide) ?_
            refine x_put (fs2 := (MO ((x 0)) ((x 1)) ((x 2)) ((x 3)) ((nI tn)) ((nI (q + tkN tn tv q))) ((nI q)) 1 ((n10F (tkf tv q) (tkN tn tv q))) sgn flt plc ((w27F (tkf tv q) (tkN tn tv q))) tld ((x 4)) ((x 5)) ((x 6)) ((x 7)) ((x 8)) ((x 9)) ((x 10)) ((x 11)))) dX12_go_363 fX12_81 (Or.inl rfl) p36 (by decide) rfl rfl (Nat.le_of_ble_eq_true rfl) rfl (fun h170 a171 e172 l173 s174 => ?_)
            have sm175 := Sm.put sm3 e172 l173 s174 (by decide)
            exact x_vret dX12_go_366 rfl ⟨rfl, ⟨_, _, _, _, _, _, a171, TkM.mk (K1 (by have := hM.1; have := hM.2; omega)) rfl rfl (by omega) eE (fun z => by have := R1 (fun z => hg z.1); omega) (fun z => by have := R1 (fun z => hg z.1); omega) (fun z => by have := R1 (fun z => hg z.1); omega) (fun z => by have := R1 (fun z => hg z.1); omega) (fun _ => rfl)⟩, sm175⟩
        · rw [if_neg hd]
          refine x_if_ne (tgt := 171) dX12_go_131 (by decide) (fun c_131 => absurd (by decide) c_131) (fun c_131 => ?_)
          refine x_aload_n dX12_go_134 1 rfl ?_
          refine x_iload_n dX12_go_135 0 rfl ?_
          refine x_bipush (v := 59) dX12_go_136 (by decide) ?_
          refine x_icmp_eq (tgt := 147) dX12_go_138 (by decide) (fun c_138 => ?_) (fun c_138 => ?_)
          · refine x_iconst (v := 4) dX12_go_147 (by decide) ?_
            refine x_goto (tgt := 152) dX12_go_148 (by decide) ?_
            refine x_put (fs2 := (MO ((x 0)) ((x 1)) ((x 2)) ((x 3)) ((nI tn)) ((nI q)) ((nI q)) 4 num sgn flt plc wrd tld ((x 4)) ((x 5)) ((x 6)) ((x 7)) ((x 8)) ((x 9)) ((x 10)) ((x 11)))) dX12_go_152 fX12_81 (Or.inl rfl) a102 (by decide) rfl rfl (Nat.le_of_ble_eq_true rfl) rfl (fun h176 a177 e178 l179 s180 => ?_)
            have f181 := (e178 37 (by decide)).trans f106
            have sm182 := Sm.put sm107 e178 l179 s180 (by decide)
            refine x_aload_n dX12_go_155 1 rfl ?_
            refine x_iload_n dX12_go_156 0 rfl ?_
            refine x_put (fs2 := (MO ((x 0)) ((x 1)) ((x 2)) ((x 3)) ((nI tn)) ((nI q)) ((nI q)) 4 num ((nI (tv q))) flt plc wrd tld ((x 4)) ((x 5)) ((x 6)) ((x 7)) ((x 8)) ((x 9)) ((x 10)) ((x 11)))) dX12_go_157 fX12_91 (Or.inl rfl) a177 (by decide) rfl rfl (Nat.le_of_ble_eq_true rfl) rfl (fun h183 a184 e185 l186 s187 => ?_)
            have f188 := (e185 37 (by decide)).trans f181
            have sm189 := Sm.put sm182 e185 l186 s187 (by decide)
            refine x_aload_n dX12_go_160 1 rfl ?_
            refine x_dup dX12_go_161 rfl ?_
            refine x_get (v := .int (nI q)) dX12_go_162 fX12_75 a184 (by decide) rfl ?_
            refine x_iconst (v := 1) dX12_go_165 (by decide) ?_
            refine x_iaddN (a := q) (b := 1) dX12_go_166 ?_
            refine x_put (fs2 := (MO ((x 0)) ((x 1)) ((x 2)) ((x 3)) ((nI tn)) ((nI (q + 1))) ((nI q)) 4 num ((nI (tv q))) flt plc wrd tld ((x 4)) ((x 5)) ((x 6)) ((x 7)) ((x 8)) ((x 9)) ((x 10)) ((x 11)))) dX12_go_167 fX12_75 (Or.inl rfl) a184 (by decide) rfl rfl (Nat.le_of_ble_eq_true rfl) rfl (fun h190 a191 e192 l193 s194 => ?_)
            have f195 := (e192 37 (by decide)).trans f188
            have sm196 := Sm.put sm189 e192 l193 s194 (by decide)
            exact x_vret dX12_go_170 rfl ⟨rfl, ⟨_, _, _, _, _, _, a191, TkM.mk (K1 (by have := hM.1; have := hM.2; omega)) rfl rfl (by omega) (by unfold tkE; rw [if_neg (fun z => by have := isAb_iff.mp z; have := mt isLb_iff.mpr hl; have := mt isDb_iff.mpr hd; omega)]) (fun z => by have := (show tkK tn tv q = 19 by unfold tkK; rw [if_neg (fun z => by have := isAb_iff.mp z; have := mt isLb_iff.mpr hl; have := mt isDb_iff.mpr hd; omega), if_pos ((nI_eq (b := 59) (by omega) (by decide)).mp c_138)]); omega) (fun z => by have := (show tkK tn tv q = 19 by unfold tkK; rw [if_neg (fun z => by have := isAb_iff.mp z; have := mt isLb_iff.mpr hl; have := mt isDb_iff.mpr hd; omega), if_pos ((nI_eq (b := 59) (by omega) (by decide)).mp c_138)]); omega) (fun _ => ⟨rfl, c_138⟩) (fun z => by have := (show tkK tn tv q = 19 by unfold tkK; rw [if_neg (fun z => by have := isAb_iff.mp z; have := mt isLb_iff.mpr hl; have := mt isDb_iff.mpr hd; omega), if_pos ((nI_eq (b := 59) (by omega) (by decide)).mp c_138)]); omega) (fun z => by have := (show tkK tn tv q = 19 by unfold tkK; rw [if_neg (fun z => by have := isAb_iff.mp z; have := mt isLb_iff.mpr hl; have := mt isDb_iff.mpr hd; omega), if_pos ((nI_eq (b := 59) (by omega) (by decide)).mp c_138)]); omega)⟩, sm196⟩
          · refine x_iload_n dX12_go_141 0 rfl ?_
            refine x_bipush (v := 58) dX12_go_142 (by decide) ?_
            refine x_icmp_ne (tgt := 151) dX12_go_144 (by decide) (fun c_144 => ?_) (fun c_144 => ?_)
            · refine x_iconst (v := 1) dX12_go_151 (by decide) ?_
              refine x_put (fs2 := (MO ((x 0)) ((x 1)) ((x 2)) ((x 3)) ((nI tn)) ((nI q)) ((nI q)) 1 num sgn flt plc wrd tld ((x 4)) ((x 5)) ((x 6)) ((x 7)) ((x 8)) ((x 9)) ((x 10)) ((x 11)))) dX12_go_152 fX12_81 (Or.inl rfl) a102 (by decide) rfl rfl (Nat.le_of_ble_eq_true rfl) rfl (fun h197 a198 e199 l200 s201 => ?_)
              have f202 := (e199 37 (by decide)).trans f106
              have sm203 := Sm.put sm107 e199 l200 s201 (by decide)
              refine x_aload_n dX12_go_155 1 rfl ?_
              refine x_iload_n dX12_go_156 0 rfl ?_
              refine x_put (fs2 := (MO ((x 0)) ((x 1)) ((x 2)) ((x 3)) ((nI tn)) ((nI q)) ((nI q)) 1 num ((nI (tv q))) flt plc wrd tld ((x 4)) ((x 5)) ((x 6)) ((x 7)) ((x 8)) ((x 9)) ((x 10)) ((x 11)))) dX12_go_157 fX12_91 (Or.inl rfl) a198 (by decide) rfl rfl (Nat.le_of_ble_eq_true rfl) rfl (fun h204 a205 e206 l207 s208 => ?_)
              have f209 := (e206 37 (by decide)).trans f202
              have sm210 := Sm.put sm203 e206 l207 s208 (by decide)
              refine x_aload_n dX12_go_160 1 rfl ?_
              refine x_dup dX12_go_161 rfl ?_
              refine x_get (v := .int (nI q)) dX12_go_162 fX12_75 a205 (by decide) rfl ?_
              refine x_iconst (v := 1) dX12_go_165 (by decide) ?_
              refine x_iaddN (a := q) (b := 1) dX12_go_166 ?_
              refine x_put (fs2 := (MO ((x 0)) ((x 1)) ((x 2)) ((x 3)) ((nI tn)) ((nI (q + 1))) ((nI q)) 1 num ((nI (tv q))) flt plc wrd tld ((x 4)) ((x 5)) ((x 6)) ((x 7)) ((x 8)) ((x 9)) ((x 10)) ((x 11)))) dX12_go_167 fX12_75 (Or.inl rfl) a205 (by decide) rfl rfl (Nat.le_of_ble_eq_true rfl) rfl (fun h211 a212 e213 l214 s215 => ?_)
              have f216 := (e213 37 (by decide)).trans f209
              have sm217 := Sm.put sm210 e213 l214 s215 (by decide)
              exact x_vret dX12_go_170 rfl ⟨rfl, ⟨_, _, _, _, _, _, a212, TkM.mk (K1 (by have := hM.1; have := hM.2; omega)) rfl rfl (by omega) (by unfold tkE; rw [if_neg (fun z => by have := isAb_iff.mp z; have := mt isLb_iff.mpr hl; have := mt isDb_iff.mpr hd; omega)]) (fun z => by have := (show tkK tn tv q = 21 by unfold tkK; rw [if_neg (fun z => by have := isAb_iff.mp z; have := mt isLb_iff.mpr hl; have := mt isDb_iff.mpr hd; omega), if_neg (fun z => c_138 (by rw [z]; rfl)), if_neg (fun z => c_144 (by rw [z]; rfl))]); omega) (fun z => by have := (show tkK tn tv q = 21 by unfold tkK; rw [if_neg (fun z => by have := isAb_iff.mp z; have := mt isLb_iff.mpr hl; have := mt isDb_iff.mpr hd; omega), if_neg (fun z => c_138 (by rw [z]; rfl)), if_neg (fun z => c_144 (by rw [z]; rfl))]); omega) (fun z => by have := (show tkK tn tv q = 21 by unfold tkK; rw [if_neg (fun z => by have := isAb_iff.mp z; have := mt isLb_iff.mpr hl; have := mt isDb_iff.mpr hd; omega), if_neg (fun z => c_138 (by rw [z]; rfl)), if_neg (fun z => c_144 (by rw [z]; rfl))]); omega) (fun z => by have := (show tkK tn tv q = 21 by unfold tkK; rw [if_neg (fun z => by have := isAb_iff.mp z; have := mt isLb_iff.mpr hl; have := mt isDb_iff.mpr hd; omega), if_neg (fun z => c_138 (by rw [z]; rfl)), if_neg (fun z => c_144 (by rw [z]; rfl))]); omega) (fun _ => rfl)⟩, sm217⟩
            · refine x_iconst (v := 4) dX12_go_147 (by decide) ?_
              refine x_goto (tgt := 152) dX12_go_148 (by decide) ?_
              refine x_put (fs2 := (MO ((x 0)) ((x 1)) ((x 2)) ((x 3)) ((nI tn)) ((nI q)) ((nI q)) 4 num sgn flt plc wrd tld ((x 4)) ((x 5)) ((x 6)) ((x 7)) ((x 8)) ((x 9)) ((x 10)) ((x 11)))) dX12_go_152 fX12_81 (Or.inl rfl) a102 (by decide) rfl rfl (Nat.le_of_ble_eq_true rfl) rfl (fun h218 a219 e220 l221 s222 => ?_)
              have f223 := (e220 37 (by decide)).trans f106
              have sm224 := Sm.put sm107 e220 l221 s222 (by decide)
              refine x_aload_n dX12_go_155 1 rfl ?_
              refine x_iload_n dX12_go_156 0 rfl ?_
              refine x_put (fs2 := (MO ((x 0)) ((x 1)) ((x 2)) ((x 3)) ((nI tn)) ((nI q)) ((nI q)) 4 num ((nI (tv q))) flt plc wrd tld ((x 4)) ((x 5)) ((x 6)) ((x 7)) ((x 8)) ((x 9)) ((x 10)) ((x 11)))) dX12_go_157 fX12_91 (Or.inl rfl) a219 (by decide) rfl rfl (Nat.le_of_ble_eq_true rfl) rfl (fun h225 a226 e227 l228 s229 => ?_)
              have f230 := (e227 37 (by decide)).trans f223
              have sm231 := Sm.put sm224 e227 l228 s229 (by decide)
              refine x_aload_n dX12_go_160 1 rfl ?_
              refine x_dup dX12_go_161 rfl ?_
              refine x_get (v := .int (nI q)) dX12_go_162 fX12_75 a226 (by decide) rfl ?_
              refine x_iconst (v := 1) dX12_go_165 (by decide) ?_
              refine x_iaddN (a := q) (b := 1) dX12_go_166 ?_
              refine x_put (fs2 := (MO ((x 0)) ((x 1)) ((x 2)) ((x 3)) ((nI tn)) ((nI (q + 1))) ((nI q)) 4 num ((nI (tv q))) flt plc wrd tld ((x 4)) ((x 5)) ((x 6)) ((x 7)) ((x 8)) ((x 9)) ((x 10)) ((x 11)))) dX12_go_167 fX12_75 (Or.inl rfl) a226 (by decide) rfl rfl (Nat.le_of_ble_eq_true rfl) rfl (fun h232 a233 e234 l235 s236 => ?_)
              have f237 := (e234 37 (by decide)).trans f230
              have sm238 := Sm.put sm231 e234 l235 s236 (by decide)
              exact x_vret dX12_go_170 rfl ⟨rfl, ⟨_, _, _, _, _, _, a233, TkM.mk (K1 (by have := hM.1; have := hM.2; omega)) rfl rfl (by omega) (by unfold tkE; rw [if_neg (fun z => by have := isAb_iff.mp z; have := mt isLb_iff.mpr hl; have := mt isDb_iff.mpr hd; omega)]) (fun z => by have := (show tkK tn tv q = 20 by unfold tkK; rw [if_neg (fun z => by have := isAb_iff.mp z; have := mt isLb_iff.mpr hl; have := mt isDb_iff.mpr hd; omega), if_neg (fun z => c_138 (by rw [z]; rfl)), if_pos ((nI_eq (b := 58) (by omega) (by decide)).mp c_144)]); omega) (fun z => by have := (show tkK tn tv q = 20 by unfold tkK; rw [if_neg (fun z => by have := isAb_iff.mp z; have := mt isLb_iff.mpr hl; have := mt isDb_iff.mpr hd; omega), if_neg (fun z => c_138 (by rw [z]; rfl)), if_pos ((nI_eq (b := 58) (by omega) (by decide)).mp c_144)]); omega) (fun z => by have := (show tkK tn tv q = 20 by unfold tkK; rw [if_neg (fun z => by have := isAb_iff.mp z; have := mt isLb_iff.mpr hl; have := mt isDb_iff.mpr hd; omega), if_neg (fun z => c_138 (by rw [z]; rfl)), if_pos ((nI_eq (b := 58) (by omega) (by decide)).mp c_144)]); omega) (fun _ => ⟨rfl, c_144⟩) (fun z => by have := (show tkK tn tv q = 20 by unfold tkK; rw [if_neg (fun z => by have := isAb_iff.mp z; have := mt isLb_iff.mpr hl; have := mt isDb_iff.mpr hd; omega), if_neg (fun z => c_138 (by rw [z]; rfl)), if_pos ((nI_eq (b := 58) (by omega) (by decide)).mp c_144)]); omega)⟩, sm238⟩
    · refine x_aload_n dX12_go_104 0 rfl ?_
      refine x_iconst (v := 0) dX12_go_105 (by decide) ?_
      refine x_put (fs2 := (MO ((x 0)) ((x 1)) ((x 2)) ((x 3)) ((nI tn)) ((nI q)) ((nI q)) 0 num sgn flt plc wrd tld ((x 4)) ((x 5)) ((x 6)) ((x 7)) ((x 8)) ((x 9)) ((x 10)) ((x 11)))) dX12_go_106 fX12_81 (Or.inl rfl) a102 (by decide) rfl rfl (Nat.le_of_ble_eq_true rfl) rfl (fun h239 a240 e241 l242 s243 => ?_)
      have f244 := (e241 37 (by decide)).trans f106
      have sm245 := Sm.put sm107 e241 l242 s243 (by decide)
      exact x_vret dX12_go_109 rfl ⟨rfl, ⟨_, _, _, _, _, _, a240, TkM.end (K2 (by have := hM.1; have := hM.2; omega)) (by rw [show tkM tn = q by have := hM.1; have := hM.2; omega]) (by rw [if_pos (by omega)])⟩, sm245⟩
  · refine x_aload_n dX12_go_70 0 rfl ?_
    refine x_get (v := .int (nI q)) dX12_go_71 fX12_78 a102 (by decide) rfl ?_
    refine x_sipush (v := 600) dX12_go_74 (by decide) ?_
    refine x_icmp_ltN (tgt := 93) (a := q) (b := 600) (by omega) (by omega) dX12_go_77 (by decide) (fun c_77 => ?_) (fun c_77 => ?_)
    · refine x_aload_n dX12_go_93 0 rfl ?_
      refine x_get (v := .int (nI q)) dX12_go_94 fX12_75 a102 (by decide) rfl ?_
      refine x_aload_n dX12_go_97 0 rfl ?_
      refine x_get (v := .int (nI tn)) dX12_go_98 fX12_72 a102 (by decide) rfl ?_
      refine x_icmp_ltN (tgt := 110) (a := q) (b := tn) (by omega) (by omega) dX12_go_101 (by decide) (fun c_101 => ?_) (fun c_101 => ?_)
      · refine x_aload_n dX12_go_110 0 rfl ?_
        refine x_get (v := .ref 37) dX12_go_111 fX12_7 a102 (by decide) rfl ?_
        refine x_aload_n dX12_go_114 0 rfl ?_
        refine x_get (v := .int (nI q)) dX12_go_115 fX12_75 a102 (by decide) rfl ?_
        refine x_ialdN (i := q) dX12_go_118 f106 (by decide) (by omega) (by decide) ?_
        rw [hmt q (by omega)]
        have hvq := hv q (by omega)
        refine x_istore_n (lv2 := [(1, .int (nI (tv q))), (0, .ref 36)]) dX12_go_119 (by decide) rfl ?_
        refine x_iload_n dX12_go_120 0 rfl ?_
        refine x_callS (rf' := 0) (rl' := 0) [.int (nI (tv q))] [] dX12_go_121 vX12_84 Y_X12_isLetter rfl rfl (Nat.le_of_ble_eq_true rfl) (Nat.le_of_ble_eq_true rfl) (by decide) (by decide) (c_isLetterM hvq) (fun _ _ e246 => ?_)
        cases e246
        by_cases hl : isLb (tv q) = true
        · rw [if_pos hl]
          refine x_if_ne (tgt := 171) dX12_go_124 (by decide) (fun c_124 => ?_) (fun c_124 => absurd c_124 (by decide))
          refine x_iload_n dX12_go_171 0 rfl ?_
          refine x_callS (rf' := 0) (rl' := 0) [.int (nI (tv q))] [] dX12_go_172 vX12_84 Y_X12_isLetter rfl rfl (Nat.le_of_ble_eq_true rfl) (Nat.le_of_ble_eq_true rfl) (by decide) (by decide) (c_isLetterM hvq) (fun _ _ e247 => ?_)
          cases e247
          rw [if_pos hl]
          refine x_istore_n (lv2 := [(2, .int 1), (1, .int (nI (tv q))), (0, .ref 36)]) dX12_go_175 (by decide) rfl ?_
          refine x_iconst (v := 1) dX12_go_176 (by decide) ?_
          refine x_istore_n (lv2 := [(3, .int 1), (2, .int 1), (1, .int (nI (tv q))), (0, .ref 36)]) dX12_go_177 (by decide) rfl ?_
          refine x_aload_n dX12_go_178 3 rfl ?_
          refine x_lconst (v := 0) dX12_go_179 (by decide) ?_
          refine x_put (fs2 := (MO ((x 0)) ((x 1)) ((x 2)) ((x 3)) ((nI tn)) ((nI q)) ((nI q)) knd num sgn flt plc 0 tld ((x 4)) ((x 5)) ((x 6)) ((x 7)) ((x 8)) ((x 9)) ((x 10)) ((x 11)))) dX12_go_180 fX12_94 (Or.inl rfl) a102 (by decide) rfl rfl (Nat.le_of_ble_eq_true rfl) rfl (fun h248 a249 e250 l251 s252 => ?_)
          have f253 := (e250 37 (by decide)).trans f106
          have sm254 := Sm.put sm107 e250 l251 s252 (by decide)
          refine x_aload_n dX12_go_183 3 rfl ?_
          refine x_iconst (v := 0) dX12_go_184 (by decide) ?_
          refine x_put (fs2 := (MO ((x 0)) ((x 1)) ((x 2)) ((x 3)) ((nI tn)) ((nI q)) ((nI q)) knd 0 sgn flt plc 0 tld ((x 4)) ((x 5)) ((x 6)) ((x 7)) ((x 8)) ((x 9)) ((x 10)) ((x 11)))) dX12_go_185 fX12_98 (Or.inl rfl) a249 (by decide) rfl rfl (Nat.le_of_ble_eq_true rfl) rfl (fun h255 a256 e257 l258 s259 => ?_)
          have f260 := (e257 37 (by decide)).trans f253
          have sm261 := Sm.put sm254 e257 l258 s259 (by decide)
          have ha : isAb (tv q) = true := by unfold isAb; rw [hl]; rfl
          have g37r := f260
          refine x_perm (lv2 := [(3, .int (if gdF (tkf tv q) 0 = true then 1 else 0)), (2, .int 1), (0, .ref 36)]) [0, 1, 3] rfl ?_
          refine l_goR1 htn hv hmt (by omega) ha hl g37r (fun h2 sm2 p36 => ?_) _ 0 h255 rfl (Nat.zero_le _) Sm.rf a256
          obtain ⟨n1, n2, n3, n4⟩ := tkN_spec (show q < tn by omega) ha
          obtain ⟨R1, R2⟩ := run_mod (show q < tn by omega) ha
          rw [if_pos hl] at R1 R2
          have eE : tkE tn tv q = q + tkN tn tv q := by unfold tkE; rw [if_pos ha]
          have sm3 := sm261.tr sm2
          by_cases hg : gdF (tkf tv q) (tkN tn tv q) = true
          · rw [if_pos hg]
            refine x_aload_n dX12_go_323 2 rfl ?_
            refine x_iload_n dX12_go_324 0 rfl ?_
            refine x_if_eq (tgt := 350) dX12_go_325 (by decide) (fun c_325 => absurd c_325 (by decide)) (fun c_325 => ?_)
            refine x_aload_n dX12_go_328 2 rfl ?_
            refine x_get (v := .int (nI (q + tkN tn tv q))) dX12_go_329 fX12_75 p36 (by decide) rfl ?_
            refine x_aload_n dX12_go_332 2 rfl ?_
            refine x_get (v := .int (nI q)) dX12_go_333 fX12_78 p36 (by decide) rfl ?_
            refine x_isubN (a := (q + tkN tn tv q)) (b := q) (by omega) dX12_go_336 ?_
            refine x_iload_n dX12_go_337 1 rfl ?_
            refine x_if_eq (tgt := 346) dX12_go_338 (by decide) (fun c_338 => absurd c_338 (by decide)) (fun c_338 => ?_)
            refine x_bipush (v := 8) dX12_go_341 (by decide) ?_
            refine x_goto (tgt := 347) dX12_go_343 (by decide) ?_
            refine x_icmp_leN (tgt := 354) (a := ((q + tkN tn tv q) - q)) (b := 8) (by omega) (by omega) dX12_go_347 (by decide) (fun c_347 => ?_) (fun c_347 => ?_)
            · refine x_iload_n dX12_go_354 1 rfl ?_
              refine x_if_eq (tgt := 362) dX12_go_355 (by decide) (fun c_355 => absurd c_355 (by decide)) (fun c_355 => ?_)
              refine x_iconst (v := 2) dX12_go_358 (by decide) ?_
              refine x_goto (tgt := 363) dX12_go_359 (by decide) ?_
              refine x_put (fs2 := (MO ((x 0)) ((x 1)) ((x 2)) ((x 3)) ((nI tn)) ((nI (q + tkN tn tv q))) ((nI q)) 2 ((n10F (tkf tv q) (tkN tn tv q))) sgn flt plc ((w27F (tkf tv q) (tkN tn tv q))) tld ((x 4)) ((x 5)) ((x 6)) ((x 7)) ((x 8)) ((x 9)) ((x 10)) ((x 11)))) dX12_go_363 fX12_81 (Or.inl rfl) p36 (by decide) rfl rfl (Nat.le_of_ble_eq_true rfl) rfl (fun h262 a263 e264 l265 s266 => ?_)
              have sm267 := Sm.put sm3 e264 l265 s266 (by decide)
              exact x_vret dX12_go_366 rfl ⟨rfl, ⟨_, _, _, _, _, _, a263, TkM.mk (K1 (by have := hM.1; have := hM.2; omega)) rfl rfl (by omega) eE (fun _ => ⟨rfl, ((R2 hg (by omega)).1 hl).2⟩) (fun z => by have := ((R2 hg (by omega)).1 hl).1; omega) (fun z => by have := ((R2 hg (by omega)).1 hl).1; omega) (fun z => by have := ((R2 hg (by omega)).1 hl).1; omega) (fun z => by have := ((R2 hg (by omega)).1 hl).1; omega)⟩, sm267⟩
            · refine x_iconst (v := 1) dX12_go_350 (by decide) ?_
              refine x_goto (tgt := 363) dX12_go_351 (by decide) ?_
              refine x_put (fs2 := (MO ((x 0)) ((x 1)) ((x 2)) ((x 3)) ((nI tn)) ((nI (q + tkN tn tv q))) ((nI q)) 1 ((n10F (tkf tv q) (tkN tn tv q))) sgn flt plc ((w27F (tkf tv q) (tkN tn tv q))) tld ((x 4)) ((x 5)) ((x 6)) ((x 7)) ((x 8)) ((x 9)) ((x 10)) ((x 11)))) dX12_go_363 fX12_81 (Or.inl rfl) p36 (by decide) rfl rfl (Nat.le_of_ble_eq_true rfl) rfl (fun h268 a269 e270 l271 s272 => ?_)
              have sm273 := Sm.put sm3 e270 l271 s272 (by decide)
              exact x_vret dX12_go_366 rfl ⟨rfl, ⟨_, _, _, _, _, _, a269, TkM.mk (K1 (by have := hM.1; have := hM.2; omega)) rfl rfl (by omega) eE (fun z => by have := R1 (fun z => by omega); omega) (fun z => by have := R1 (fun z => by omega); omega) (fun z => by have := R1 (fun z => by omega); omega) (fun z => by have := R1 (fun z => by omega); omega) (fun _ => rfl)⟩, sm273⟩
          · rw [if_neg hg]
            refine x_aload_n dX12_go_323 2 rfl ?_
            refine x_iload_n dX12_go_324 0 rfl ?_
            refine x_if_eq (tgt := 350) dX12_go_325 (by decide) (fun c_325 => ?_) (fun c_325 => absurd (by decide) c_325)
            refine x_iconst (v := 1) dX12_go_350 (by decide) ?_
            refine x_goto (tgt := 363) dX12_go_351 (by decide) ?_
            refine x_put (fs2 := (MO ((x 0)) ((x 1)) ((x 2)) ((x 3)) ((nI tn)) ((nI (q + tkN tn tv q))) ((nI q)) 1 ((n10F (tkf tv q) (tkN tn tv q))) sgn flt plc ((w27F (tkf tv q) (tkN tn tv q))) tld ((x 4)) ((x 5)) ((x 6)) ((x 7)) ((x 8)) ((x 9)) ((x 10)) ((x 11)))) dX12_go_363 fX12_81 (Or.inl rfl) p36 (by decide) rfl rfl (Nat.le_of_ble_eq_true rfl) rfl (fun h274 a275 e276 l277 s278 => ?_)
            have sm279 := Sm.put sm3 e276 l277 s278 (by decide)
            exact x_vret dX12_go_366 rfl ⟨rfl, ⟨_, _, _, _, _, _, a275, TkM.mk (K1 (by have := hM.1; have := hM.2; omega)) rfl rfl (by omega) eE (fun z => by have := R1 (fun z => hg z.1); omega) (fun z => by have := R1 (fun z => hg z.1); omega) (fun z => by have := R1 (fun z => hg z.1); omega) (fun z => by have := R1 (fun z => hg z.1); omega) (fun _ => rfl)⟩, sm279⟩
        · rw [if_neg hl]
          refine x_if_ne (tgt := 171) dX12_go_124 (by decide) (fun c_124 => absurd (by decide) c_124) (fun c_124 => ?_)
          refine x_iload_n dX12_go_127 0 rfl ?_
          refine x_callS (rf' := 0) (rl' := 0) [.int (nI (tv q))] [] dX12_go_128 vX12_88 Y_X12_isDigit rfl rfl (Nat.le_of_ble_eq_true rfl) (Nat.le_of_ble_eq_true rfl) (by decide) (by decide) (c_isDigitM hvq) (fun _ _ e280 => ?_)
          cases e280
          by_cases hd : isDb (tv q) = true
          · rw [if_pos hd]
            refine x_if_ne (tgt := 171) dX12_go_131 (by decide) (fun c_131 => ?_) (fun c_131 => absurd c_131 (by decide))
            refine x_iload_n dX12_go_171 0 rfl ?_
            refine x_callS (rf' := 0) (rl' := 0) [.int (nI (tv q))] [] dX12_go_172 vX12_84 Y_X12_isLetter rfl rfl (Nat.le_of_ble_eq_true rfl) (Nat.le_of_ble_eq_true rfl) (by decide) (by decide) (c_isLetterM hvq) (fun _ _ e281 => ?_)
            cases e281
            rw [if_neg hl]
            refine x_istore_n (lv2 := [(2, .int 0), (1, .int (nI (tv q))), (0, .ref 36)]) dX12_go_175 (by decide) rfl ?_
            refine x_iconst (v := 1) dX12_go_176 (by decide) ?_
            refine x_istore_n (lv2 := [(3, .int 1), (2, .int 0), (1, .int (nI (tv q))), (0, .ref 36)]) dX12_go_177 (by decide) rfl ?_
            refine x_aload_n dX12_go_178 3 rfl ?_
            refine x_lconst (v := 0) dX12_go_179 (by decide) ?_
            refine x_put (fs2 := (MO ((x 0)) ((x 1)) ((x 2)) ((x 3)) ((nI tn)) ((nI q)) ((nI q)) knd num sgn flt plc 0 tld ((x 4)) ((x 5)) ((x 6)) ((x 7)) ((x 8)) ((x 9)) ((x 10)) ((x 11)))) dX12_go_180 fX12_94 (Or.inl rfl) a102 (by decide) rfl rfl (Nat.le_of_ble_eq_true rfl) rfl (fun h282 a283 e284 l285 s286 => ?_)
            have f287 := (e284 37 (by decide)).trans f106
            have sm288 := Sm.put sm107 e284 l285 s286 (by decide)
            refine x_aload_n dX12_go_183 3 rfl ?_
            refine x_iconst (v := 0) dX12_go_184 (by decide) ?_
            refine x_put (fs2 := (MO ((x 0)) ((x 1)) ((x 2)) ((x 3)) ((nI tn)) ((nI q)) ((nI q)) knd 0 sgn flt plc 0 tld ((x 4)) ((x 5)) ((x 6)) ((x 7)) ((x 8)) ((x 9)) ((x 10)) ((x 11)))) dX12_go_185 fX12_98 (Or.inl rfl) a283 (by decide) rfl rfl (Nat.le_of_ble_eq_true rfl) rfl (fun h289 a290 e291 l292 s293 => ?_)
            have f294 := (e291 37 (by decide)).trans f287
            have sm295 := Sm.put sm288 e291 l292 s293 (by decide)
            have ha : isAb (tv q) = true := by unfold isAb; rw [hd]; exact Bool.or_true _
            have g37r := f294
            refine x_perm (lv2 := [(3, .int (if gdF (tkf tv q) 0 = true then 1 else 0)), (2, .int 0), (0, .ref 36)]) [0, 1, 3] rfl ?_
            refine l_goR0 htn hv hmt (by omega) ha (bfalse hl) g37r (fun h2 sm2 p36 => ?_) _ 0 h289 rfl (Nat.zero_le _) Sm.rf a290
            obtain ⟨n1, n2, n3, n4⟩ := tkN_spec (show q < tn by omega) ha
            obtain ⟨R1, R2⟩ := run_mod (show q < tn by omega) ha
            rw [if_neg hl] at R1 R2
            have eE : tkE tn tv q = q + tkN tn tv q := by unfold tkE; rw [if_pos ha]
            have sm3 := sm295.tr sm2
            by_cases hg : gdF (tkf tv q) (tkN tn tv q) = true
            · rw [if_pos hg]
              refine x_aload_n dX12_go_323 2 rfl ?_
              refine x_iload_n dX12_go_324 0 rfl ?_
              refine x_if_eq (tgt := 350) dX12_go_325 (by decide) (fun c_325 => absurd c_325 (by decide)) (fun c_325 => ?_)
              refine x_aload_n dX12_go_328 2 rfl ?_
              refine x_get (v := .int (nI (q + tkN tn tv q))) dX12_go_329 fX12_75 p36 (by decide) rfl ?_
              refine x_aload_n dX12_go_332 2 rfl ?_
              refine x_get (v := .int (nI q)) dX12_go_333 fX12_78 p36 (by decide) rfl ?_
              refine x_isubN (a := (q + tkN tn tv q)) (b := q) (by omega) dX12_go_336 ?_
              refine x_iload_n dX12_go_337 1 rfl ?_
              refine x_if_eq (tgt := 346) dX12_go_338 (by decide) (fun c_338 => ?_) (fun c_338 => absurd (by decide) c_338)
              refine x_iconst (v := 5) dX12_go_346 (by decide) ?_
              refine x_icmp_leN (tgt := 354) (a := ((q + tkN tn tv q) - q)) (b := 5) (by omega) (by omega) dX12_go_347 (by decide) (fun c_347 => ?_) (fun c_347 => ?_)
              · refine x_iload_n dX12_go_354 1 rfl ?_
                refine x_if_eq (tgt := 362) dX12_go_355 (by decide) (fun c_355 => ?_) (fun c_355 => absurd (by decide) c_355)
                refine x_iconst (v := 3) dX12_go_362 (by decide) ?_
                refine x_put (fs2 := (MO ((x 0)) ((x 1)) ((x 2)) ((x 3)) ((nI tn)) ((nI (q + tkN tn tv q))) ((nI q)) 3 ((n10F (tkf tv q) (tkN tn tv q))) sgn flt plc ((w27F (tkf tv q) (tkN tn tv q))) tld ((x 4)) ((x 5)) ((x 6)) ((x 7)) ((x 8)) ((x 9)) ((x 10)) ((x 11)))) dX12_go_363 fX12_81 (Or.inl rfl) p36 (by decide) rfl rfl (Nat.le_of_ble_eq_true rfl) rfl (fun h296 a297 e298 l299 s300 => ?_)
                have sm301 := Sm.put sm3 e298 l299 s300 (by decide)
                exact x_vret dX12_go_366 rfl ⟨rfl, ⟨_, _, _, _, _, _, a297, TkM.mk (K1 (by have := hM.1; have := hM.2; omega)) rfl rfl (by omega) eE (fun z => by have := ((R2 hg (by omega)).2 (bfalse hl)).1; omega) (fun _ => ⟨rfl, ((R2 hg (by omega)).2 (bfalse hl)).2⟩) (fun z => by have := ((R2 hg (by omega)).2 (bfalse hl)).1; omega) (fun z => by have := ((R2 hg (by omega)).2 (bfalse hl)).1; omega) (fun z => by have := ((R2 hg (by omega)).2 (bfalse hl)).1; omega)⟩, sm301⟩
              · refine x_iconst (v := 1) dX12_go_350 (by decide) ?_
                refine x_goto (tgt := 363) dX12_go_351 (by decide) ?_
                refine x_put (fs2 := (MO ((x 0)) ((x 1)) ((x 2)) ((x 3)) ((nI tn)) ((nI (q + tkN tn tv q))) ((nI q)) 1 ((n10F (tkf tv q) (tkN tn tv q))) sgn flt plc ((w27F (tkf tv q) (tkN tn tv q))) tld ((x 4)) ((x 5)) ((x 6)) ((x 7)) ((x 8)) ((x 9)) ((x 10)) ((x 11)))) dX12_go_363 fX12_81 (Or.inl rfl) p36 (by decide) rfl rfl (Nat.le_of_ble_eq_true rfl) rfl (fun h302 a303 e304 l305 s306 => ?_)
                have sm307 := Sm.put sm3 e304 l305 s306 (by decide)
                exact x_vret dX12_go_366 rfl ⟨rfl, ⟨_, _, _, _, _, _, a303, TkM.mk (K1 (by have := hM.1; have := hM.2; omega)) rfl rfl (by omega) eE (fun z => by have := R1 (fun z => by omega); omega) (fun z => by have := R1 (fun z => by omega); omega) (fun z => by have := R1 (fun z => by omega); omega) (fun z => by have := R1 (fun z => by omega); omega) (fun _ => rfl)⟩, sm307⟩
            · rw [if_neg hg]
              refine x_aload_n dX12_go_323 2 rfl ?_
              refine x_iload_n dX12_go_324 0 rfl ?_
              refine x_if_eq (tgt := 350) dX12_go_325 (by decide) (fun c_325 => ?_) (fun c_325 => absurd (by decide) c_325)
              refine x_iconst (v := 1) dX12_go_350 (by decide) ?_
              refine x_goto (tgt := 363) dX12_go_351 (by decide) ?_
              refine x_put (fs2 := (MO ((x 0)) ((x 1)) ((x 2)) ((x 3)) ((nI tn)) ((nI (q + tkN tn tv q))) ((nI q)) 1 ((n10F (tkf tv q) (tkN tn tv q))) sgn flt plc ((w27F (tkf tv q) (tkN tn tv q))) tld ((x 4)) ((x 5)) ((x 6)) ((x 7)) ((x 8)) ((x 9)) ((x 10)) ((x 11)))) dX12_go_363 fX12_81 (Or.inl rfl) p36 (by decide) rfl rfl (Nat.le_of_ble_eq_true rfl) rfl (fun h308 a309 e310 l311 s312 => ?_)
              have sm313 := Sm.put sm3 e310 l311 s312 (by decide)
              exact x_vret dX12_go_366 rfl ⟨rfl, ⟨_, _, _, _, _, _, a309, TkM.mk (K1 (by have := hM.1; have := hM.2; omega)) rfl rfl (by omega) eE (fun z => by have := R1 (fun z => hg z.1); omega) (fun z => by have := R1 (fun z => hg z.1); omega) (fun z => by have := R1 (fun z => hg z.1); omega) (fun z => by have := R1 (fun z => hg z.1); omega) (fun _ => rfl)⟩, sm313⟩
          · rw [if_neg hd]
            refine x_if_ne (tgt := 171) dX12_go_131 (by decide) (fun c_131 => absurd (by decide) c_131) (fun c_131 => ?_)
            refine x_aload_n dX12_go_134 1 rfl ?_
            refine x_iload_n dX12_go_135 0 rfl ?_
            refine x_bipush (v := 59) dX12_go_136 (by decide) ?_
            refine x_icmp_eq (tgt := 147) dX12_go_138 (by decide) (fun c_138 => ?_) (fun c_138 => ?_)
            · refine x_iconst (v := 4) dX12_go_147 (by decide) ?_
              refine x_goto (tgt := 152) dX12_go_148 (by decide) ?_
              refine x_put (fs2 := (MO ((x 0)) ((x 1)) ((x 2)) ((x 3)) ((nI tn)) ((nI q)) ((nI q)) 4 num sgn flt plc wrd tld ((x 4)) ((x 5)) ((x 6)) ((x 7)) ((x 8)) ((x 9)) ((x 10)) ((x 11)))) dX12_go_152 fX12_81 (Or.inl rfl) a102 (by decide) rfl rfl (Nat.le_of_ble_eq_true rfl) rfl (fun h314 a315 e316 l317 s318 => ?_)
              have f319 := (e316 37 (by decide)).trans f106
              have sm320 := Sm.put sm107 e316 l317 s318 (by decide)
              refine x_aload_n dX12_go_155 1 rfl ?_
              refine x_iload_n dX12_go_156 0 rfl ?_
              refine x_put (fs2 := (MO ((x 0)) ((x 1)) ((x 2)) ((x 3)) ((nI tn)) ((nI q)) ((nI q)) 4 num ((nI (tv q))) flt plc wrd tld ((x 4)) ((x 5)) ((x 6)) ((x 7)) ((x 8)) ((x 9)) ((x 10)) ((x 11)))) dX12_go_157 fX12_91 (Or.inl rfl) a315 (by decide) rfl rfl (Nat.le_of_ble_eq_true rfl) rfl (fun h321 a322 e323 l324 s325 => ?_)
              have f326 := (e323 37 (by decide)).trans f319
              have sm327 := Sm.put sm320 e323 l324 s325 (by decide)
              refine x_aload_n dX12_go_160 1 rfl ?_
              refine x_dup dX12_go_161 rfl ?_
              refine x_get (v := .int (nI q)) dX12_go_162 fX12_75 a322 (by decide) rfl ?_
              refine x_iconst (v := 1) dX12_go_165 (by decide) ?_
              refine x_iaddN (a := q) (b := 1) dX12_go_166 ?_
              refine x_put (fs2 := (MO ((x 0)) ((x 1)) ((x 2)) ((x 3)) ((nI tn)) ((nI (q + 1))) ((nI q)) 4 num ((nI (tv q))) flt plc wrd tld ((x 4)) ((x 5)) ((x 6)) ((x 7)) ((x 8)) ((x 9)) ((x 10)) ((x 11)))) dX12_go_167 fX12_75 (Or.inl rfl) a322 (by decide) rfl rfl (Nat.le_of_ble_eq_true rfl) rfl (fun h328 a329 e330 l331 s332 => ?_)
              have f333 := (e330 37 (by decide)).trans f326
              have sm334 := Sm.put sm327 e330 l331 s332 (by decide)
              exact x_vret dX12_go_170 rfl ⟨rfl, ⟨_, _, _, _, _, _, a329, TkM.mk (K1 (by have := hM.1; have := hM.2; omega)) rfl rfl (by omega) (by unfold tkE; rw [if_neg (fun z => by have := isAb_iff.mp z; have := mt isLb_iff.mpr hl; have := mt isDb_iff.mpr hd; omega)]) (fun z => by have := (show tkK tn tv q = 19 by unfold tkK; rw [if_neg (fun z => by have := isAb_iff.mp z; have := mt isLb_iff.mpr hl; have := mt isDb_iff.mpr hd; omega), if_pos ((nI_eq (b := 59) (by omega) (by decide)).mp c_138)]); omega) (fun z => by have := (show tkK tn tv q = 19 by unfold tkK; rw [if_neg (fun z => by have := isAb_iff.mp z; have := mt isLb_iff.mpr hl; have := mt isDb_iff.mpr hd; omega), if_pos ((nI_eq (b := 59) (by omega) (by decide)).mp c_138)]); omega) (fun _ => ⟨rfl, c_138⟩) (fun z => by have := (show tkK tn tv q = 19 by unfold tkK; rw [if_neg (fun z => by have := isAb_iff.mp z; have := mt isLb_iff.mpr hl; have := mt isDb_iff.mpr hd; omega), if_pos ((nI_eq (b := 59) (by omega) (by decide)).mp c_138)]); omega) (fun z => by have := (show tkK tn tv q = 19 by unfold tkK; rw [if_neg (fun z => by have := isAb_iff.mp z; have := mt isLb_iff.mpr hl; have := mt isDb_iff.mpr hd; omega), if_pos ((nI_eq (b := 59) (by omega) (by decide)).mp c_138)]); omega)⟩, sm334⟩
            · refine x_iload_n dX12_go_141 0 rfl ?_
              refine x_bipush (v := 58) dX12_go_142 (by decide) ?_
              refine x_icmp_ne (tgt := 151) dX12_go_144 (by decide) (fun c_144 => ?_) (fun c_144 => ?_)
              · refine x_iconst (v := 1) dX12_go_151 (by decide) ?_
                refine x_put (fs2 := (MO ((x 0)) ((x 1)) ((x 2)) ((x 3)) ((nI tn)) ((nI q)) ((nI q)) 1 num sgn flt plc wrd tld ((x 4)) ((x 5)) ((x 6)) ((x 7)) ((x 8)) ((x 9)) ((x 10)) ((x 11)))) dX12_go_152 fX12_81 (Or.inl rfl) a102 (by decide) rfl rfl (Nat.le_of_ble_eq_true rfl) rfl (fun h335 a336 e337 l338 s339 => ?_)
                have f340 := (e337 37 (by decide)).trans f106
                have sm341 := Sm.put sm107 e337 l338 s339 (by decide)
                refine x_aload_n dX12_go_155 1 rfl ?_
                refine x_iload_n dX12_go_156 0 rfl ?_
                refine x_put (fs2 := (MO ((x 0)) ((x 1)) ((x 2)) ((x 3)) ((nI tn)) ((nI q)) ((nI q)) 1 num ((nI (tv q))) flt plc wrd tld ((x 4)) ((x 5)) ((x 6)) ((x 7)) ((x 8)) ((x 9)) ((x 10)) ((x 11)))) dX12_go_157 fX12_91 (Or.inl rfl) a336 (by decide) rfl rfl (Nat.le_of_ble_eq_true rfl) rfl (fun h342 a343 e344 l345 s346 => ?_)
                have f347 := (e344 37 (by decide)).trans f340
                have sm348 := Sm.put sm341 e344 l345 s346 (by decide)
                refine x_aload_n dX12_go_160 1 rfl ?_
                refine x_dup dX12_go_161 rfl ?_
                refine x_get (v := .int (nI q)) dX12_go_162 fX12_75 a343 (by decide) rfl ?_
                refine x_iconst (v := 1) dX12_go_165 (by decide) ?_
                refine x_iaddN (a := q) (b := 1) dX12_go_166 ?_
                refine x_put (fs2 := (MO ((x 0)) ((x 1)) ((x 2)) ((x 3)) ((nI tn)) ((nI (q + 1))) ((nI q)) 1 num ((nI (tv q))) flt plc wrd tld ((x 4)) ((x 5)) ((x 6)) ((x 7)) ((x 8)) ((x 9)) ((x 10)) ((x 11)))) dX12_go_167 fX12_75 (Or.inl rfl) a343 (by decide) rfl rfl (Nat.le_of_ble_eq_true rfl) rfl (fun h349 a350 e351 l352 s353 => ?_)
                have f354 := (e351 37 (by decide)).trans f347
                have sm355 := Sm.put sm348 e351 l352 s353 (by decide)
                exact x_vret dX12_go_170 rfl ⟨rfl, ⟨_, _, _, _, _, _, a350, TkM.mk (K1 (by have := hM.1; have := hM.2; omega)) rfl rfl (by omega) (by unfold tkE; rw [if_neg (fun z => by have := isAb_iff.mp z; have := mt isLb_iff.mpr hl; have := mt isDb_iff.mpr hd; omega)]) (fun z => by have := (show tkK tn tv q = 21 by unfold tkK; rw [if_neg (fun z => by have := isAb_iff.mp z; have := mt isLb_iff.mpr hl; have := mt isDb_iff.mpr hd; omega), if_neg (fun z => c_138 (by rw [z]; rfl)), if_neg (fun z => c_144 (by rw [z]; rfl))]); omega) (fun z => by have := (show tkK tn tv q = 21 by unfold tkK; rw [if_neg (fun z => by have := isAb_iff.mp z; have := mt isLb_iff.mpr hl; have := mt isDb_iff.mpr hd; omega), if_neg (fun z => c_138 (by rw [z]; rfl)), if_neg (fun z => c_144 (by rw [z]; rfl))]); omega) (fun z => by have := (show tkK tn tv q = 21 by unfold tkK; rw [if_neg (fun z => by have := isAb_iff.mp z; have := mt isLb_iff.mpr hl; have := mt isDb_iff.mpr hd; omega), if_neg (fun z => c_138 (by rw [z]; rfl)), if_neg (fun z => c_144 (by rw [z]; rfl))]); omega) (fun z => by have := (show tkK tn tv q = 21 by unfold tkK; rw [if_neg (fun z => by have := isAb_iff.mp z; have := mt isLb_iff.mpr hl; have := mt isDb_iff.mpr hd; omega), if_neg (fun z => c_138 (by rw [z]; rfl)), if_neg (fun z => c_144 (by rw [z]; rfl))]); omega) (fun _ => rfl)⟩, sm355⟩
              · refine x_iconst (v := 4) dX12_go_147 (by decide) ?_
                refine x_goto (tgt := 152) dX12_go_148 (by decide) ?_
                refine x_put (fs2 := (MO ((x 0)) ((x 1)) ((x 2)) ((x 3)) ((nI tn)) ((nI q)) ((nI q)) 4 num sgn flt plc wrd tld ((x 4)) ((x 5)) ((x 6)) ((x 7)) ((x 8)) ((x 9)) ((x 10)) ((x 11)))) dX12_go_152 fX12_81 (Or.inl rfl) a102 (by decide) rfl rfl (Nat.le_of_ble_eq_true rfl) rfl (fun h356 a357 e358 l359 s360 => ?_)
                have f361 := (e358 37 (by decide)).trans f106
                have sm362 := Sm.put sm107 e358 l359 s360 (by decide)
                refine x_aload_n dX12_go_155 1 rfl ?_
                refine x_iload_n dX12_go_156 0 rfl ?_
                refine x_put (fs2 := (MO ((x 0)) ((x 1)) ((x 2)) ((x 3)) ((nI tn)) ((nI q)) ((nI q)) 4 num ((nI (tv q))) flt plc wrd tld ((x 4)) ((x 5)) ((x 6)) ((x 7)) ((x 8)) ((x 9)) ((x 10)) ((x 11)))) dX12_go_157 fX12_91 (Or.inl rfl) a357 (by decide) rfl rfl (Nat.le_of_ble_eq_true rfl) rfl (fun h363 a364 e365 l366 s367 => ?_)
                have f368 := (e365 37 (by decide)).trans f361
                have sm369 := Sm.put sm362 e365 l366 s367 (by decide)
                refine x_aload_n dX12_go_160 1 rfl ?_
                refine x_dup dX12_go_161 rfl ?_
                refine x_get (v := .int (nI q)) dX12_go_162 fX12_75 a364 (by decide) rfl ?_
                refine x_iconst (v := 1) dX12_go_165 (by decide) ?_
                refine x_iaddN (a := q) (b := 1) dX12_go_166 ?_
                refine x_put (fs2 := (MO ((x 0)) ((x 1)) ((x 2)) ((x 3)) ((nI tn)) ((nI (q + 1))) ((nI q)) 4 num ((nI (tv q))) flt plc wrd tld ((x 4)) ((x 5)) ((x 6)) ((x 7)) ((x 8)) ((x 9)) ((x 10)) ((x 11)))) dX12_go_167 fX12_75 (Or.inl rfl) a364 (by decide) rfl rfl (Nat.le_of_ble_eq_true rfl) rfl (fun h370 a371 e372 l373 s374 => ?_)
                have f375 := (e372 37 (by decide)).trans f368
                have sm376 := Sm.put sm369 e372 l373 s374 (by decide)
                exact x_vret dX12_go_170 rfl ⟨rfl, ⟨_, _, _, _, _, _, a371, TkM.mk (K1 (by have := hM.1; have := hM.2; omega)) rfl rfl (by omega) (by unfold tkE; rw [if_neg (fun z => by have := isAb_iff.mp z; have := mt isLb_iff.mpr hl; have := mt isDb_iff.mpr hd; omega)]) (fun z => by have := (show tkK tn tv q = 20 by unfold tkK; rw [if_neg (fun z => by have := isAb_iff.mp z; have := mt isLb_iff.mpr hl; have := mt isDb_iff.mpr hd; omega), if_neg (fun z => c_138 (by rw [z]; rfl)), if_pos ((nI_eq (b := 58) (by omega) (by decide)).mp c_144)]); omega) (fun z => by have := (show tkK tn tv q = 20 by unfold tkK; rw [if_neg (fun z => by have := isAb_iff.mp z; have := mt isLb_iff.mpr hl; have := mt isDb_iff.mpr hd; omega), if_neg (fun z => c_138 (by rw [z]; rfl)), if_pos ((nI_eq (b := 58) (by omega) (by decide)).mp c_144)]); omega) (fun z => by have := (show tkK tn tv q = 20 by unfold tkK; rw [if_neg (fun z => by have := isAb_iff.mp z; have := mt isLb_iff.mpr hl; have := mt isDb_iff.mpr hd; omega), if_neg (fun z => c_138 (by rw [z]; rfl)), if_pos ((nI_eq (b := 58) (by omega) (by decide)).mp c_144)]); omega) (fun _ => ⟨rfl, c_144⟩) (fun z => by have := (show tkK tn tv q = 20 by unfold tkK; rw [if_neg (fun z => by have := isAb_iff.mp z; have := mt isLb_iff.mpr hl; have := mt isDb_iff.mpr hd; omega), if_neg (fun z => c_138 (by rw [z]; rfl)), if_pos ((nI_eq (b := 58) (by omega) (by decide)).mp c_144)]); omega)⟩, sm376⟩
      · refine x_aload_n dX12_go_104 0 rfl ?_
        refine x_iconst (v := 0) dX12_go_105 (by decide) ?_
        refine x_put (fs2 := (MO ((x 0)) ((x 1)) ((x 2)) ((x 3)) ((nI tn)) ((nI q)) ((nI q)) 0 num sgn flt plc wrd tld ((x 4)) ((x 5)) ((x 6)) ((x 7)) ((x 8)) ((x 9)) ((x 10)) ((x 11)))) dX12_go_106 fX12_81 (Or.inl rfl) a102 (by decide) rfl rfl (Nat.le_of_ble_eq_true rfl) rfl (fun h377 a378 e379 l380 s381 => ?_)
        have f382 := (e379 37 (by decide)).trans f106
        have sm383 := Sm.put sm107 e379 l380 s381 (by decide)
        exact x_vret dX12_go_109 rfl ⟨rfl, ⟨_, _, _, _, _, _, a378, TkM.end (K2 (by have := hM.1; have := hM.2; omega)) (by rw [show tkM tn = q by have := hM.1; have := hM.2; omega]) (by rw [if_pos (by omega)])⟩, sm383⟩
    · refine x_aload_n dX12_go_80 0 rfl ?_
      refine x_sipush (v := 600) dX12_go_81 (by decide) ?_
      refine x_put (fs2 := (MO ((x 0)) ((x 1)) ((x 2)) ((x 3)) ((nI tn)) ((nI q)) 600 knd num sgn flt plc wrd tld ((x 4)) ((x 5)) ((x 6)) ((x 7)) ((x 8)) ((x 9)) ((x 10)) ((x 11)))) dX12_go_84 fX12_78 (Or.inl rfl) a102 (by decide) rfl rfl (Nat.le_of_ble_eq_true rfl) rfl (fun h384 a385 e386 l387 s388 => ?_)
      have f389 := (e386 37 (by decide)).trans f106
      have sm390 := Sm.put sm107 e386 l387 s388 (by decide)
      refine x_aload_n dX12_go_87 0 rfl ?_
      refine x_iconst (v := 1) dX12_go_88 (by decide) ?_
      refine x_put (fs2 := (MO ((x 0)) ((x 1)) ((x 2)) ((x 3)) ((nI tn)) ((nI q)) 600 1 num sgn flt plc wrd tld ((x 4)) ((x 5)) ((x 6)) ((x 7)) ((x 8)) ((x 9)) ((x 10)) ((x 11)))) dX12_go_89 fX12_81 (Or.inl rfl) a385 (by decide) rfl rfl (Nat.le_of_ble_eq_true rfl) rfl (fun h391 a392 e393 l394 s395 => ?_)
      have f396 := (e393 37 (by decide)).trans f389
      have sm397 := Sm.put sm390 e393 l394 s395 (by decide)
      exact x_vret dX12_go_92 rfl ⟨rfl, ⟨_, _, _, _, _, _, a392, TkM.end (K2 (by have := hM.2; omega)) (by rw [hM.2 (by omega)]; rfl) (by rw [if_neg (by omega)])⟩, sm397⟩

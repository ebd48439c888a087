theorem ixab {x : Int32} {a b : Nat} (hb : b + 1 < 2 ^ 31) (ha : a < 2 ^ 31) (h1 : ¬ x < nI a) (h2 : ¬ nI b < x) : ∃ k, a ≤ k ∧ k ≤ b ∧ x = nI k := by
  rw [Int32.lt_iff_toInt_lt, nI_toInt (by omega)] at h1 h2
  obtain ⟨k, e1, e2⟩ := nI_of (x := x) (by rw [Int32.lt_iff_toInt_lt]; have : (0 : Int32).toInt = 0 := rfl; omega)
  subst e2
  rw [nI_toInt e1] at h1 h2
  exact ⟨k, by omega, by omega, rfl⟩
def poF (a : Int64) : Nat → Int64
  | 0 => 1
  | n + 1 => poF a n * a
theorem poF_nat (a : Nat) : ∀ n, poF (lN a) n = lN (a ^ n)
  | 0 => rfl
  | n + 1 => by rw [poF, poF_nat a n, lN_mul, Nat.pow_succ]
/-- PROVED, from a share on downwards -/
def prF (n s : Nat) : Nat → Nat
  | 0 => 0
  | p + 1 => if lN ((100 - (p + 1)) ^ n * s) < lN (100 ^ n) then prF n s p else p + 1
def spProved (n s : Int32) : Int32 := if (n < 1 ∨ 8 < n) ∨ (s < 2 ∨ 900 < s) then -1 else nI (prF n.toNatClampNeg s.toNatClampNeg 99)
/-- NEEDED, m tries left, the next one the i-th -/
def ndF (p : Nat) (bound : Int64) : Nat → Nat → Int64 → Int32
  | 0, _, _ => -1
  | m + 1, i, left => if bound ≤ left * (nI (100 - p)).toInt64 / 100 then ndF p bound m (i + 1) (left * (nI (100 - p)).toInt64 / 100) else nI i
def spNeeded (p s : Int32) : Int32 := if (p < 1 ∨ 99 < p) ∨ (s < 2 ∨ 1000000 < s) then -1 else ndF p.toNatClampNeg (1000000000000000 / s.toInt64) 999 1 1000000000000000
theorem pr_end {n s : Nat} (hn : n ≤ 8) (h2 : 1 ≤ s) (h9 : s ≤ 900) : ¬ lN (100 ^ n * s) < lN (100 ^ n) := by
  have h1 : 100 ^ n ≤ 100 ^ 8 := Nat.pow_le_pow_right (by decide) hn
  have h3 : 100 ^ n * s ≤ 100 ^ 8 * 900 := Nat.mul_le_mul h1 h9
  have h4 : 100 ^ n * 1 ≤ 100 ^ n * s := Nat.mul_le_mul_left _ h2
  rw [pk_lLT (by omega) (by omega)]
  omega

set_option maxRecDepth 100000 in
set_option maxHeartbeats 4000000 in
theorem l_power11 {G : GT} {h : List PE} {a : Int64} {m : Nat} (hm9 : m < 2 ^ 30) : ∀ (q k : Nat), m - k = q → k ≤ m → X (NF G) G mX11_power 0 0 5 [(5, .int (nI k)), (3, .long (poF a k)), (0, .long a), (2, .int (nI m))] [] h (fun o => o = (some (.long (poF a m)), h)) := by
  intro q
  induction q using Nat.strongRecOn with
  | _ q ih =>
    intro k hq hk
    refine x_iload dX11_power_5 0 rfl ?_
    refine x_iload_n dX11_power_7 3 rfl ?_
    refine x_icmp_geN (tgt := 21) (a := k) (b := m) (by omega) (by omega) dX11_power_8 (by decide) (fun c_8 => ?_) (fun c_8 => ?_)
    · refine x_lload_n dX11_power_21 1 rfl ?_
      exact x_lret dX11_power_22 rfl (by rw [show m = k by omega])
    · refine x_lload_n dX11_power_11 1 rfl ?_
      refine x_lload_n dX11_power_12 2 rfl ?_
      refine x_lmul dX11_power_13 ?_
      refine x_lstore_n (lv2 := [(3, .long ((poF a k) * a)), (5, .int (nI k)), (0, .long a), (2, .int (nI m))]) dX11_power_14 (by decide) rfl ?_
      refine x_iincN (lv2 := [(5, .int (nI (k + 1))), (3, .long ((poF a k) * a)), (0, .long a), (2, .int (nI m))]) dX11_power_15 1 rfl (by decide) rfl ?_
      refine x_goto (tgt := 5) dX11_power_18 (by decide) ?_
      refine x_perm [0, 1, 2, 3] rfl ?_
      exact ih (m - (k + 1)) (by omega) (k + 1) rfl (by omega)

set_option maxRecDepth 100000 in
set_option maxHeartbeats 4000000 in
theorem c_power11 {G : GT} {h : List PE} {a : Int64} {m : Nat} (hm9 : m < 2 ^ 30) : CT G mX11_power 0 0 [.long a, .int (nI m)] h (fun o => o = (some (.long (poF a m)), h)) := by
  show X (NF G) G mX11_power 0 0 0 [(0, .long a), (2, .int (nI m))] [] h _
  refine x_lconst (v := 1) dX11_power_0 (by decide) ?_
  refine x_lstore_n (lv2 := [(3, .long 1), (0, .long a), (2, .int (nI m))]) dX11_power_1 (by decide) rfl ?_
  refine x_iconst (v := 0) dX11_power_2 (by decide) ?_
  refine x_istore (lv2 := [(5, .int 0), (3, .long 1), (0, .long a), (2, .int (nI m))]) dX11_power_3 (by decide) rfl ?_
  refine x_perm [0, 1, 2, 3] rfl ?_
  exact l_power11 hm9 m 0 rfl (by omega)

set_option maxRecDepth 100000 in
set_option maxHeartbeats 4000000 in
theorem l_power12 {G : GT} {h : List PE} {a : Int64} {m : Nat} (hm9 : m < 2 ^ 30) : ∀ (q k : Nat), m - k = q → k ≤ m → X (NF G) G mX12_power 0 0 5 [(5, .int (nI k)), (3, .long (poF a k)), (0, .long a), (2, .int (nI m))] [] h (fun o => o = (some (.long (poF a m)), h)) := by
  intro q
  induction q using Nat.strongRecOn with
  | _ q ih =>
    intro k hq hk
    refine x_iload dX12_power_5 0 rfl ?_
    refine x_iload_n dX12_power_7 3 rfl ?_
    refine x_icmp_geN (tgt := 21) (a := k) (b := m) (by omega) (by omega) dX12_power_8 (by decide) (fun c_8 => ?_) (fun c_8 => ?_)
    · refine x_lload_n dX12_power_21 1 rfl ?_
      exact x_lret dX12_power_22 rfl (by rw [show m = k by omega])
    · refine x_lload_n dX12_power_11 1 rfl ?_
      refine x_lload_n dX12_power_12 2 rfl ?_
      refine x_lmul dX12_power_13 ?_
      refine x_lstore_n (lv2 := [(3, .long ((poF a k) * a)), (5, .int (nI k)), (0, .long a), (2, .int (nI m))]) dX12_power_14 (by decide) rfl ?_
      refine x_iincN (lv2 := [(5, .int (nI (k + 1))), (3, .long ((poF a k) * a)), (0, .long a), (2, .int (nI m))]) dX12_power_15 1 rfl (by decide) rfl ?_
      refine x_goto (tgt := 5) dX12_power_18 (by decide) ?_
      refine x_perm [0, 1, 2, 3] rfl ?_
      exact ih (m - (k + 1)) (by omega) (k + 1) rfl (by omega)

set_option maxRecDepth 100000 in
set_option maxHeartbeats 4000000 in
theorem c_power12 {G : GT} {h : List PE} {a : Int64} {m : Nat} (hm9 : m < 2 ^ 30) : CT G mX12_power 0 0 [.long a, .int (nI m)] h (fun o => o = (some (.long (poF a m)), h)) := by
  show X (NF G) G mX12_power 0 0 0 [(0, .long a), (2, .int (nI m))] [] h _
  refine x_lconst (v := 1) dX12_power_0 (by decide) ?_
  refine x_lstore_n (lv2 := [(3, .long 1), (0, .long a), (2, .int (nI m))]) dX12_power_1 (by decide) rfl ?_
  refine x_iconst (v := 0) dX12_power_2 (by decide) ?_
  refine x_istore (lv2 := [(5, .int 0), (3, .long 1), (0, .long a), (2, .int (nI m))]) dX12_power_3 (by decide) rfl ?_
  refine x_perm [0, 1, 2, 3] rfl ?_
  exact l_power12 hm9 m 0 rfl (by omega)

set_option maxRecDepth 100000 in
set_option maxHeartbeats 4000000 in
theorem l_proved {G : GT} {h : List PE} {nn ss : Nat} (hn : nn ≤ 8) (hs : ss ≤ 900) : ∀ p, p ≤ 99 → X (NF G) G mX11_proved 1 25 37 [(5, .int (nI p)), (3, .long (lN (100 ^ nn))), (1, .int (nI nn)), (2, .int (nI ss))] [] h (fun o => o = (some (.int (nI (prF nn ss p))), h)) := by
  intro p
  induction p with
  | zero =>
    intro _
    refine x_iload dX11_proved_37 0 rfl ?_
    refine x_if_leN (tgt := 66) (a := 0) (by omega) dX11_proved_39 (by decide) (fun c_39 => ?_) (fun c_39 => absurd (by omega) c_39)
    refine x_iload dX11_proved_66 0 rfl ?_
    exact x_iret dX11_proved_68 rfl rfl
  | succ p ih =>
    intro hp
    refine x_iload dX11_proved_37 0 rfl ?_
    refine x_if_leN (tgt := 66) (a := (p + 1)) (by omega) dX11_proved_39 (by decide) (fun c_39 => absurd c_39 (by omega)) (fun c_39 => ?_)
    refine x_bipush (v := 100) dX11_proved_42 (by decide) ?_
    refine x_iload dX11_proved_44 0 rfl ?_
    refine x_isubN (a := 100) (b := (p + 1)) (by omega) dX11_proved_46 ?_
    refine x_i2l dX11_proved_47 ?_
    refine x_iload_n dX11_proved_48 2 rfl ?_
    refine x_callS (rf' := 0) (rl' := 0) [.long ((nI (100 - (p + 1)))).toInt64, .int (nI nn)] [] dX11_proved_49 vX11_262 Y_X11_power rfl rfl (Nat.le_of_ble_eq_true rfl) (Nat.le_of_ble_eq_true rfl) (by decide) (by decide) (c_power11 (by omega)) (fun _ _ e1 => ?_)
    cases e1
    rw [nI_l (by omega), poF_nat]
    refine x_iload_n dX11_proved_52 3 rfl ?_
    refine x_i2l dX11_proved_53 ?_
    rw [nI_l (by omega)]
    refine x_lmul dX11_proved_54 ?_
    rw [lN_mul]
    refine x_lload_n dX11_proved_55 1 rfl ?_
    refine x_lif_ge (tgt := 66) dX11_proved_56 dX11_proved_57 (by decide) (fun c_57 => ?_) (fun c_57 => ?_)
    · refine x_iload dX11_proved_66 0 rfl ?_
      exact x_iret dX11_proved_68 rfl (by rw [prF, if_neg (Int64.not_lt.mpr c_57)])
    · refine x_iinc (lv2 := [(5, .int (nI p)), (3, .long (lN (100 ^ nn))), (1, .int (nI nn)), (2, .int (nI ss))]) dX11_proved_60 0 rfl (pk_m1 p) (by decide) rfl ?_
      refine x_goto (tgt := 37) dX11_proved_63 (by decide) ?_
      refine x_perm [0, 1, 2, 3] rfl ?_
      exact (ih (by omega)).weaken (fun o ho => by rw [ho, prF, if_pos (Int64.not_le.mp c_57)])

set_option maxRecDepth 100000 in
set_option maxHeartbeats 4000000 in
theorem c_proved {G : GT} {h : List PE} {n s : Int32} : CT G mX11_proved 1 25 [.ref 3, .int n, .int s] h (fun o => o = (some (.int (spProved n s)), h)) := by
  show X (NF G) G mX11_proved 1 25 0 [(0, .ref 3), (1, .int n), (2, .int s)] [] h _
  refine x_iload_n dX11_proved_0 1 rfl ?_
  refine x_iconst (v := 1) dX11_proved_1 (by decide) ?_
  refine x_icmp_lt (tgt := 23) dX11_proved_2 (by decide) (fun c_2 => ?_) (fun c_2 => ?_)
  · refine x_iconst (v := (-1)) dX11_proved_23 (by decide) ?_
    exact x_iret dX11_proved_24 rfl (by rw [spProved, if_pos (Or.inl (Or.inl c_2))])
  · refine x_iload_n dX11_proved_5 1 rfl ?_
    refine x_bipush (v := 8) dX11_proved_6 (by decide) ?_
    refine x_icmp_gt (tgt := 23) dX11_proved_8 (by decide) (fun c_8 => ?_) (fun c_8 => ?_)
    · refine x_iconst (v := (-1)) dX11_proved_23 (by decide) ?_
      exact x_iret dX11_proved_24 rfl (by rw [spProved, if_pos (Or.inl (Or.inr c_8))])
    · refine x_iload_n dX11_proved_11 2 rfl ?_
      refine x_iconst (v := 2) dX11_proved_12 (by decide) ?_
      refine x_icmp_lt (tgt := 23) dX11_proved_13 (by decide) (fun c_13 => ?_) (fun c_13 => ?_)
      · refine x_iconst (v := (-1)) dX11_proved_23 (by decide) ?_
        exact x_iret dX11_proved_24 rfl (by rw [spProved, if_pos (Or.inr (Or.inl c_13))])
      · refine x_iload_n dX11_proved_16 2 rfl ?_
        refine x_sipush (v := 900) dX11_proved_17 (by decide) ?_
        refine x_icmp_le (tgt := 25) dX11_proved_20 (by decide) (fun c_20 => ?_) (fun c_20 => ?_)
        · obtain ⟨nn, n1, n2, rfl⟩ := ixab (a := 1) (b := 8) (by decide) (by decide) c_2 c_8
          obtain ⟨ss, s1, s2, rfl⟩ := ixab (a := 2) (b := 900) (by decide) (by decide) c_13 (Int32.not_lt.mpr c_20)
          refine x_ldc2 (v := 100) dX11_proved_25 kX11_260 ?_
          refine x_iload_n dX11_proved_28 1 rfl ?_
          refine x_callS (rf' := 0) (rl' := 0) [.long 100, .int (nI nn)] [] dX11_proved_29 vX11_262 Y_X11_power rfl rfl (Nat.le_of_ble_eq_true rfl) (Nat.le_of_ble_eq_true rfl) (by decide) (by decide) (c_power11 (by omega)) (fun _ _ e1 => ?_)
          cases e1
          rw [show (100 : Int64) = lN 100 from rfl, poF_nat]
          refine x_lstore_n (lv2 := [(3, .long (lN (100 ^ nn))), (0, .ref 3), (1, .int (nI nn)), (2, .int (nI ss))]) dX11_proved_32 (by decide) rfl ?_
          refine x_bipush (v := 99) dX11_proved_33 (by decide) ?_
          refine x_istore (lv2 := [(5, .int 99), (3, .long (lN (100 ^ nn))), (0, .ref 3), (1, .int (nI nn)), (2, .int (nI ss))]) dX11_proved_35 (by decide) rfl ?_
          refine x_perm [0, 1, 3, 4] rfl ?_
          exact (l_proved n2 s2 99 (by decide)).weaken (fun o ho => by rw [ho, spProved, if_neg (fun q => q.elim (fun q => q.elim c_2 c_8) (fun q => q.elim c_13 (Int32.not_lt.mpr c_20))), nI_clamp (by omega), nI_clamp (by omega)])
        · refine x_iconst (v := (-1)) dX11_proved_23 (by decide) ?_
          exact x_iret dX11_proved_24 rfl (by rw [spProved, if_pos (Or.inr (Or.inr (Int32.not_le.mp c_20)))])

set_option maxRecDepth 100000 in
set_option maxHeartbeats 4000000 in
theorem lm_proved {G : GT} {h : List PE} {nn ss : Nat} (hn : nn ≤ 8) (h2 : 1 ≤ ss) (hs : ss ≤ 900) : ∀ p, p ≤ 99 → X (NF G) G mX12_proved 1 25 31 [(3, .int (nI p)), (0, .ref 36), (1, .int (nI nn)), (2, .int (nI ss))] [] h (fun o => o = (some (.int (nI (prF nn ss p))), h)) := by
  intro p
  induction p with
  | zero =>
    intro _
    refine x_ldc2 (v := 100) dX12_proved_31 kX12_232 ?_
    refine x_iload_n dX12_proved_34 0 rfl ?_
    refine x_i2l dX12_proved_35 ?_
    refine x_lsub dX12_proved_36 ?_
    refine x_iload_n dX12_proved_37 2 rfl ?_
    refine x_callS (rf' := 0) (rl' := 0) [.long (100 - ((nI 0)).toInt64), .int (nI nn)] [] dX12_proved_38 vX12_304 Y_X12_power rfl rfl (Nat.le_of_ble_eq_true rfl) (Nat.le_of_ble_eq_true rfl) (by decide) (by decide) (c_power12 (by omega)) (fun _ _ e1 => ?_)
    cases e1
    rw [nI_l (by omega), show (100 : Int64) = lN 100 from rfl, lN_sub (by omega), poF_nat]
    refine x_iload_n dX12_proved_41 3 rfl ?_
    refine x_i2l dX12_proved_42 ?_
    rw [nI_l (by omega)]
    refine x_lmul dX12_proved_43 ?_
    rw [lN_mul]
    refine x_ldc2 (v := 100) dX12_proved_44 kX12_232 ?_
    refine x_iload_n dX12_proved_47 2 rfl ?_
    refine x_callS (rf' := 0) (rl' := 0) [.long 100, .int (nI nn)] [.long (lN ((100 - 0) ^ nn * ss))] dX12_proved_48 vX12_304 Y_X12_power rfl rfl (Nat.le_of_ble_eq_true rfl) (Nat.le_of_ble_eq_true rfl) (by decide) (by decide) (c_power12 (by omega)) (fun _ _ e1 => ?_)
    cases e1
    rw [show (100 : Int64) = lN 100 from rfl, poF_nat]
    refine x_lif_ge (tgt := 61) dX12_proved_51 dX12_proved_52 (by decide) (fun c_52 => ?_) (fun c_52 => absurd (Int64.not_lt.mp (pr_end hn h2 hs)) c_52)
    refine x_iload_n dX12_proved_61 0 rfl ?_
    exact x_iret dX12_proved_62 rfl rfl
  | succ p ih =>
    intro hp
    refine x_ldc2 (v := 100) dX12_proved_31 kX12_232 ?_
    refine x_iload_n dX12_proved_34 0 rfl ?_
    refine x_i2l dX12_proved_35 ?_
    refine x_lsub dX12_proved_36 ?_
    refine x_iload_n dX12_proved_37 2 rfl ?_
    refine x_callS (rf' := 0) (rl' := 0) [.long (100 - ((nI (p + 1))).toInt64), .int (nI nn)] [] dX12_proved_38 vX12_304 Y_X12_power rfl rfl (Nat.le_of_ble_eq_true rfl) (Nat.le_of_ble_eq_true rfl) (by decide) (by decide) (c_power12 (by omega)) (fun _ _ e1 => ?_)
    cases e1
    rw [nI_l (by omega), show (100 : Int64) = lN 100 from rfl, lN_sub (by omega), poF_nat]
    refine x_iload_n dX12_proved_41 3 rfl ?_
    refine x_i2l dX12_proved_42 ?_
    rw [nI_l (by omega)]
    refine x_lmul dX12_proved_43 ?_
    rw [lN_mul]
    refine x_ldc2 (v := 100) dX12_proved_44 kX12_232 ?_
    refine x_iload_n dX12_proved_47 2 rfl ?_
    refine x_callS (rf' := 0) (rl' := 0) [.long 100, .int (nI nn)] [.long (lN ((100 - (p + 1)) ^ nn * ss))] dX12_proved_48 vX12_304 Y_X12_power rfl rfl (Nat.le_of_ble_eq_true rfl) (Nat.le_of_ble_eq_true rfl) (by decide) (by decide) (c_power12 (by omega)) (fun _ _ e1 => ?_)
    cases e1
    rw [show (100 : Int64) = lN 100 from rfl, poF_nat]
    refine x_lif_ge (tgt := 61) dX12_proved_51 dX12_proved_52 (by decide) (fun c_52 => ?_) (fun c_52 => ?_)
    · refine x_iload_n dX12_proved_61 0 rfl ?_
      exact x_iret dX12_proved_62 rfl (by rw [prF, if_neg (Int64.not_lt.mpr c_52)])
    · refine x_iinc (lv2 := [(3, .int (nI p)), (0, .ref 36), (1, .int (nI nn)), (2, .int (nI ss))]) dX12_proved_55 0 rfl (pk_m1 p) (by decide) rfl ?_
      refine x_goto (tgt := 31) dX12_proved_58 (by decide) ?_
      refine x_perm [0, 1, 2, 3] rfl ?_
      exact (ih (by omega)).weaken (fun o ho => by rw [ho, prF, if_pos (Int64.not_le.mp c_52)])

set_option maxRecDepth 100000 in
set_option maxHeartbeats 4000000 in
theorem m_proved {G : GT} {h : List PE} {s : ST} (hM : MoR h s) {n sx : Int32} : CT G mX12_proved 1 25 [.ref 36, .int n, .int sx] h (fun o => o.1 = some (.int (spProved n sx)) ∧ MoR o.2 s ∧ Sm [36] h o.2) := by
  obtain ⟨thr, siz, too, frm, knd, num, sgn, plc, wrd, tld, now, lst, pfo, thk, are, ipd, mt, bk, dy, nm, cv, sv, k1, k2, k3, k4, k5, k6, k7, f36, f37, f38, f39, f40, f41, f42, f43, f44, f45, f46, f47, f48, f49, r1, r2, r3⟩ := hM
  have sm0 : Sm [36] h h := Sm.rf
  show X (NF G) G mX12_proved 1 25 0 [(0, .ref 36), (1, .int n), (2, .int sx)] [] h _
  refine x_aload_n dX12_proved_0 0 rfl ?_
  refine x_iconst (v := 0) dX12_proved_1 (by decide) ?_
  refine x_put (fs2 := (MO 0 ((nI (s_tn s))) ((nI (s_td s))) ((nI (s_n s))) siz too frm knd num sgn ((s_fl s)) plc wrd tld now lst pfo thk are ((s_br s)) ipd ((s_bs s)))) dX12_proved_2 fX12_55 (Or.inl rfl) f36 (by decide) rfl rfl (Nat.le_of_ble_eq_true rfl) rfl (fun h1 a2 e3 l4 s5 => ?_)
  have sm6 := Sm.put sm0 e3 l4 s5 (by decide)
  refine x_iload_n dX12_proved_5 1 rfl ?_
  refine x_iconst (v := 1) dX12_proved_6 (by decide) ?_
  refine x_bipush (v := 8) dX12_proved_7 (by decide) ?_
  refine x_callS (rf' := 0) (rl' := 0) [.int n, .int 1, .int 8] [] dX12_proved_9 vX12_65 Y_X12_isIn rfl rfl (Nat.le_of_ble_eq_true rfl) (Nat.le_of_ble_eq_true rfl) (by decide) (by decide) c_isIn (fun _ _ e7 => ?_)
  cases e7
  by_cases hN : n < 1 ∨ 8 < n
  · rw [if_pos hN]
    refine x_if_eq (tgt := 26) dX12_proved_12 (by decide) (fun c_12 => ?_) (fun c_12 => absurd (by decide) c_12)
    refine x_iconst (v := (-1)) dX12_proved_26 (by decide) ?_
    exact x_iret dX12_proved_27 rfl ⟨by rw [spProved, if_pos (Or.inl hN)], (moR a2 (sm6.at f37 (by decide)) (sm6.at f38 (by decide)) (sm6.at f39 (by decide)) (sm6.at f40 (by decide)) (sm6.at f41 (by decide)) (sm6.at f42 (by decide)) (sm6.at f43 (by decide)) (sm6.at f44 (by decide)) (sm6.at f45 (by decide)) (sm6.at f46 (by decide)) (sm6.at f47 (by decide)) (sm6.at f48 (by decide)) (sm6.at f49 (by decide)) r1 r2 r3), sm6⟩
  · rw [if_neg hN]
    refine x_if_eq (tgt := 26) dX12_proved_12 (by decide) (fun c_12 => absurd c_12 (by decide)) (fun c_12 => ?_)
    refine x_iload_n dX12_proved_15 2 rfl ?_
    refine x_iconst (v := 2) dX12_proved_16 (by decide) ?_
    refine x_sipush (v := 900) dX12_proved_17 (by decide) ?_
    refine x_callS (rf' := 0) (rl' := 0) [.int sx, .int 2, .int 900] [] dX12_proved_20 vX12_65 Y_X12_isIn rfl rfl (Nat.le_of_ble_eq_true rfl) (Nat.le_of_ble_eq_true rfl) (by decide) (by decide) c_isIn (fun _ _ e8 => ?_)
    cases e8
    by_cases hS : sx < 2 ∨ 900 < sx
    · rw [if_pos hS]
      refine x_if_ne (tgt := 28) dX12_proved_23 (by decide) (fun c_23 => absurd (by decide) c_23) (fun c_23 => ?_)
      refine x_iconst (v := (-1)) dX12_proved_26 (by decide) ?_
      exact x_iret dX12_proved_27 rfl ⟨by rw [spProved, if_pos (Or.inr hS)], (moR a2 (sm6.at f37 (by decide)) (sm6.at f38 (by decide)) (sm6.at f39 (by decide)) (sm6.at f40 (by decide)) (sm6.at f41 (by decide)) (sm6.at f42 (by decide)) (sm6.at f43 (by decide)) (sm6.at f44 (by decide)) (sm6.at f45 (by decide)) (sm6.at f46 (by decide)) (sm6.at f47 (by decide)) (sm6.at f48 (by decide)) (sm6.at f49 (by decide)) r1 r2 r3), sm6⟩
    · rw [if_neg hS]
      refine x_if_ne (tgt := 28) dX12_proved_23 (by decide) (fun c_23 => ?_) (fun c_23 => absurd c_23 (by decide))
      refine x_bipush (v := 99) dX12_proved_28 (by decide) ?_
      refine x_istore_n (lv2 := [(3, .int 99), (0, .ref 36), (1, .int n), (2, .int sx)]) dX12_proved_30 (by decide) rfl ?_
      obtain ⟨nn, n1, n2, rfl⟩ := ixab (a := 1) (b := 8) (by decide) (by decide) (fun q => hN (Or.inl q)) (fun q => hN (Or.inr q))
      obtain ⟨ss, s1, s2, rfl⟩ := ixab (a := 2) (b := 900) (by decide) (by decide) (fun q => hS (Or.inl q)) (fun q => hS (Or.inr q))
      refine x_perm [0, 1, 2, 3] rfl ?_
      refine (lm_proved n2 (by omega) s2 99 (by decide)).weaken (fun o ho => ?_)
      subst ho
      exact ⟨by rw [spProved, if_neg (fun q => q.elim hN hS), nI_clamp (by omega), nI_clamp (by omega)], (moR a2 (sm6.at f37 (by decide)) (sm6.at f38 (by decide)) (sm6.at f39 (by decide)) (sm6.at f40 (by decide)) (sm6.at f41 (by decide)) (sm6.at f42 (by decide)) (sm6.at f43 (by decide)) (sm6.at f44 (by decide)) (sm6.at f45 (by decide)) (sm6.at f46 (by decide)) (sm6.at f47 (by decide)) (sm6.at f48 (by decide)) (sm6.at f49 (by decide)) r1 r2 r3), sm6⟩

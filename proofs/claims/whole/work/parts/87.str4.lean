theorem c_chk3 {G : GT} {h : List PE} {i n : Nat} (hi : i < n) (hn : n < 2 ^ 31) : X (NF G) G mJ3_checkIndex_8e157 0 0 0 [(0, .int (nI i)), (1, .int (nI n))] [] h (fun o => o = (some (.int (nI i)), h)) := by
  refine x_iload_n dJ3_checkIndex_8e157_0 0 rfl ?_
  refine x_if_ltN (a := i) (by omega) (tgt := 9) dJ3_checkIndex_8e157_1 (by decide) ?_
  refine x_iload_n dJ3_checkIndex_8e157_4 0 rfl ?_
  refine x_iload_n dJ3_checkIndex_8e157_5 1 rfl ?_
  refine x_icmp_ltN (tgt := 16) (a := i) (b := n) (by omega) (by omega) dJ3_checkIndex_8e157_6 (by decide) (fun c => ?_) (fun c => absurd hi c)
  refine x_iload_n dJ3_checkIndex_8e157_16 0 rfl ?_
  exact x_iret dJ3_checkIndex_8e157_17 rfl rfl
theorem c_checkIdx {G : GT} {h : List PE} (hG : GS G) {i n : Nat} (hi : i < n) (hn : n < 2 ^ 31) : CT G mJ0_checkIndex_df160 1 22 [.int (nI i), .int (nI n)] h (fun o => o = (none, h)) := by
  show X (NF G) G mJ0_checkIndex_df160 1 22 0 [(0, .int (nI i)), (1, .int (nI n))] [] h _
  refine x_iload_n dJ0_checkIndex_df160_0 0 rfl ?_
  refine x_iload_n dJ0_checkIndex_df160_1 1 rfl ?_
  refine x_fmt (rf' := 0) (rl' := 0) hG rfl dJ0_checkIndex_df160_2 dJ0_checkIndex_df160_5 vJ0_1059 Y_J3_checkIndex_8e157 (by decide) (by decide) (by decide) (c_chk3 hi hn) (fun _ _ e => ?_)
  cases e
  refine x_pop dJ0_checkIndex_df160_8 rfl ?_
  exact x_vret dJ0_checkIndex_df160_9 rfl rfl
set_option maxRecDepth 100000 in
theorem sc_c : ∀ i, i < 91 → ((scB.getD i 0 &&& 255).toUInt32 % 65536).toInt32 = scB.getD i 0 := by decide +kernel
theorem sc_bd : ∀ i, i < 91 → ∃ n, n < 256 ∧ scB.getD i 0 = nI n := fun i hi => ⟨(scB.getD i 0).toNatClampNeg, by revert i; decide +kernel, by revert i; decide +kernel⟩
theorem c_chr1 {G : GT} {h : List PE} (hG : GS G) {i : Nat} (hi : i < 91) : CT G mJ1_charAt_3b067 2 43 [.ref 2, .int (nI i)] h (fun o => o = (some (.int (scB.getD i 0)), h)) := by
  show X (NF G) G mJ1_charAt_3b067 2 43 0 [(0, .ref 2), (1, .int (nI i))] [] h _
  refine x_iload_n dJ1_charAt_3b067_0 1 rfl ?_
  refine x_aload_n dJ1_charAt_3b067_1 0 rfl ?_
  refine x_strL hG dJ1_charAt_3b067_2 ?_
  refine x_callS (rf' := 1) (rl' := 22) [.int (nI i), .int 91] [] dJ1_charAt_3b067_3 vJ1_9 Y_J0_checkIndex_df160 rfl rfl (Nat.le_of_ble_eq_true rfl) (Nat.le_of_ble_eq_true rfl) (by decide) (by decide) (c_checkIdx (n := 91) hG hi (by decide)) (fun _ _ e => ?_)
  cases e
  refine x_aload_n dJ1_charAt_3b067_6 0 rfl ?_
  refine x_iload_n dJ1_charAt_3b067_7 1 rfl ?_
  refine x_strB hG (vp_in_nI hi (by decide)) dJ1_charAt_3b067_8 ?_
  rw [nI_clamp (by omega)]
  refine x_sipush (v := 255) dJ1_charAt_3b067_9 (by decide) ?_
  refine x_iand dJ1_charAt_3b067_12 ?_
  refine x_i2c dJ1_charAt_3b067_13 ?_
  rw [sc_c i hi]
  obtain ⟨n, hn, e⟩ := sc_bd i hi
  rw [e]
  exact x_zret dJ1_charAt_3b067_14 rfl (pk_charN (by omega)).1 rfl
theorem c_chr {G : GT} {h : List PE} (hG : GS G) {i : Nat} (hi : i < 91) : CT G mJ0_charAt_5068e 3 64 [.ref 1, .int (nI i)] h (fun o => o = (some (.int (scB.getD i 0)), h)) := by
  show X (NF G) G mJ0_charAt_5068e 3 64 0 [(0, .ref 1), (1, .int (nI i))] [] h _
  refine x_aload_n dJ0_charAt_5068e_0 0 rfl ?_
  refine x_callStr (rf' := 0) (rl' := 0) hG [] [] dJ0_charAt_5068e_1 sv_lat rfl Y_J0_isLatin1_aae02 rfl rfl (Nat.le_of_ble_eq_true rfl) (Nat.le_of_ble_eq_true rfl) (by decide) (by decide) (c_isLatin1 hG) (fun _ _ e => ?_)
  cases e
  refine x_if_eq (tgt := 16) dJ0_charAt_5068e_4 (by decide) (fun c => absurd c (by decide)) (fun c => ?_)
  refine x_aload_n dJ0_charAt_5068e_7 0 rfl ?_
  refine x_strV hG rfl dJ0_charAt_5068e_8 ?_
  refine x_iload_n dJ0_charAt_5068e_11 1 rfl ?_
  refine x_callS (rf' := 2) (rl' := 43) [.ref 2, .int (nI i)] [] dJ0_charAt_5068e_12 vJ0_495 Y_J1_charAt_3b067 rfl rfl (Nat.le_of_ble_eq_true rfl) (Nat.le_of_ble_eq_true rfl) (by decide) (by decide) (c_chr1 hG hi) (fun _ _ e => ?_)
  cases e
  obtain ⟨n, hn, e⟩ := sc_bd i hi
  rw [e]
  exact x_zret dJ0_charAt_5068e_15 rfl (pk_charN (by omega)).1 rfl

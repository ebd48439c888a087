section TkMf
variable {tn i : Nat} {tv : Nat → Nat} {too frm knd num sgn : Int32} {wrd : Int64}
theorem TkM.kn (t : TkM tn tv i too frm knd num sgn wrd) : (kd tn tv i ≤ 17 ∧ knd = 2) ∨ (kd tn tv i = 18 ∧ knd = 3) ∨ ((kd tn tv i = 19 ∨ kd tn tv i = 20) ∧ knd = 4) ∨ (kd tn tv i = 21 ∧ knd = 1) ∨ (kd tn tv i = 22 ∧ tn ≤ 600 ∧ knd = 0) ∨ (kd tn tv i = 22 ∧ ¬ tn ≤ 600 ∧ knd = 1) := by
  obtain ⟨-, t2, -, t4, t5, t6, t7, t8⟩ := t
  have hk := kd_le tn tv i
  by_cases a : kd tn tv i ≤ 17
  · exact Or.inl ⟨a, (t4 a).1⟩
  by_cases b : kd tn tv i = 18
  · exact Or.inr (Or.inl ⟨b, (t5 b).1⟩)
  by_cases c : kd tn tv i = 19
  · exact Or.inr (Or.inr (Or.inl ⟨Or.inl c, (t6 c).1⟩))
  by_cases d : kd tn tv i = 20
  · exact Or.inr (Or.inr (Or.inl ⟨Or.inr d, (t7 d).1⟩))
  by_cases e : kd tn tv i = 21
  · exact Or.inr (Or.inr (Or.inr (Or.inl ⟨e, t8 e⟩)))
  have f : kd tn tv i = 22 := by omega
  by_cases g : tn ≤ 600
  · exact Or.inr (Or.inr (Or.inr (Or.inr (Or.inl ⟨f, g, (t2 f).trans (if_pos g)⟩))))
  · exact Or.inr (Or.inr (Or.inr (Or.inr (Or.inr ⟨f, g, (t2 f).trans (if_neg g)⟩))))
theorem TkM.k1 (t : TkM tn tv i too frm knd num sgn wrd) (h : knd = 1) : 21 ≤ kd tn tv i := by
  rcases t.kn with ⟨a, b⟩ | ⟨a, b⟩ | ⟨a, b⟩ | ⟨a, b⟩ | ⟨a, -, b⟩ | ⟨a, -, b⟩ <;> first | omega | (rw [b] at h; exact absurd h (by decide))
theorem TkM.k2 (t : TkM tn tv i too frm knd num sgn wrd) : knd = 2 ↔ kd tn tv i ≤ 17 := by
  rcases t.kn with ⟨a, b⟩ | ⟨a, b⟩ | ⟨a, b⟩ | ⟨a, b⟩ | ⟨a, -, b⟩ | ⟨a, -, b⟩ <;> rw [b] <;> first | exact ⟨fun _ => a, fun _ => rfl⟩ | exact ⟨fun z => absurd z (by decide), fun z => by omega⟩
theorem TkM.k3 (t : TkM tn tv i too frm knd num sgn wrd) : knd = 3 ↔ kd tn tv i = 18 := by
  rcases t.kn with ⟨a, b⟩ | ⟨a, b⟩ | ⟨a, b⟩ | ⟨a, b⟩ | ⟨a, -, b⟩ | ⟨a, -, b⟩ <;> rw [b] <;> first | exact ⟨fun _ => a, fun _ => rfl⟩ | exact ⟨fun z => absurd z (by decide), fun z => by omega⟩
theorem TkM.k4 (t : TkM tn tv i too frm knd num sgn wrd) : knd = 4 ↔ (kd tn tv i = 19 ∨ kd tn tv i = 20) := by
  rcases t.kn with ⟨a, b⟩ | ⟨a, b⟩ | ⟨a, b⟩ | ⟨a, b⟩ | ⟨a, -, b⟩ | ⟨a, -, b⟩ <;> rw [b] <;> first | exact ⟨fun _ => a, fun _ => rfl⟩ | exact ⟨fun z => absurd z (by decide), fun z => by omega⟩
theorem TkM.k0 (t : TkM tn tv i too frm knd num sgn wrd) : knd = 0 ↔ (kd tn tv i = 22 ∧ tn ≤ 600) := by
  rcases t.kn with ⟨a, b⟩ | ⟨a, b⟩ | ⟨a, b⟩ | ⟨a, b⟩ | ⟨a, c, b⟩ | ⟨a, c, b⟩ <;> rw [b] <;> first | exact ⟨fun _ => ⟨a, c⟩, fun _ => rfl⟩ | exact ⟨fun z => absurd z (by decide), fun z => by omega⟩
theorem TkM.word (t : TkM tn tv i too frm knd num sgn wrd) {n : Nat} (hn : n < 17) : (knd = 2 ∧ wrd = lN (k27 n)) ↔ kd tn tv i = n := by
  rw [t.k2]
  constructor
  · rintro ⟨a, b⟩
    obtain ⟨w, e⟩ := kd_word a
    rw [(t.2.2.2.1 a).2] at b
    rw [e]
    exact (kW_iff hn).mpr ((w.l (rw_WP hn)).2.mp b)
  · intro e
    have a : kd tn tv i ≤ 17 := by omega
    obtain ⟨w, e2⟩ := kd_word a
    refine ⟨a, ?_⟩
    rw [(t.2.2.2.1 a).2]
    exact congrArg lN ((kW_iff hn).mp (e2.symm.trans e))
end TkMf
theorem tokE {tn k i : Nat} {tv : Nat → Nat} (e : tokF tn tv k i = none) : kd tn tv i = k := by
  unfold tokF at e
  by_cases q : kd tn tv i = k
  · exact q
  · rw [if_neg q] at e; exact absurd e (by simp)
theorem numE {tn i : Nat} {tv : Nat → Nat} {a b : Int32} (e : numF tn tv a b i = none) : kd tn tv i = 18 ∧ ¬ (nI (nv tn tv i) < a ∨ b < nI (nv tn tv i)) ∧ nv tn tv i < 100000 := by
  unfold numF at e
  by_cases q : kd tn tv i = 18
  · rw [if_pos q] at e
    by_cases z : nI (nv tn tv i) < a ∨ b < nI (nv tn tv i)
    · rw [if_pos z] at e; exact absurd e (by simp)
    · exact ⟨q, z, kd_num q⟩
  · rw [if_neg q] at e; exact absurd e (by simp)
theorem newE {tn i : Nat} {tv : Nat → Nat} {nl : NL'} (e : newF tn tv nl i = none) : kd tn tv i = 17 := by
  unfold newF at e
  by_cases q : kd tn tv i = 17
  · exact q
  · rw [if_neg q] at e; exact absurd e (by simp)
theorem tldE {tn i k : Nat} {tv : Nat → Nat} {nl : NL'} (e : tldF tn tv nl k i = none) : kd tn tv i = 17 := by
  unfold tldF at e
  by_cases q : kd tn tv i = 17
  · exact q
  · rw [if_neg q] at e; exact absurd e (by simp)
def WGH : Nat := cdF 27 (fun j => [119, 101, 105, 103, 104].getD j 0) 5

set_option maxRecDepth 100000 in
set_option maxHeartbeats 4000000 in
theorem c_spelt0 {G : GT} {h : List PE} : CT G mX12_spelt 0 0 [.int 102, .int 111, .int 97, .int 109, .int 0] h (fun o => o = (some (.long (lN (k27 0))), h)) := by
  show X (NF G) G mX12_spelt 0 0 0 [(0, .int 102), (1, .int 111), (2, .int 97), (3, .int 109), (4, .int 0)] [] h _
  refine x_ldc2 (v := 27) dX12_spelt_0 kX12_105 ?_
  refine x_ldc2 (v := 27) dX12_spelt_3 kX12_105 ?_
  refine x_iload_n dX12_spelt_6 0 rfl ?_
  refine x_i2l dX12_spelt_7 ?_
  refine x_ldc2 (v := 96) dX12_spelt_8 kX12_107 ?_
  refine x_lsub dX12_spelt_11 ?_
  refine x_lmul dX12_spelt_12 ?_
  refine x_iload_n dX12_spelt_13 1 rfl ?_
  refine x_i2l dX12_spelt_14 ?_
  refine x_ladd dX12_spelt_15 ?_
  refine x_ldc2 (v := 96) dX12_spelt_16 kX12_107 ?_
  refine x_lsub dX12_spelt_19 ?_
  refine x_lmul dX12_spelt_20 ?_
  refine x_iload_n dX12_spelt_21 2 rfl ?_
  refine x_i2l dX12_spelt_22 ?_
  refine x_ladd dX12_spelt_23 ?_
  refine x_ldc2 (v := 96) dX12_spelt_24 kX12_107 ?_
  refine x_lsub dX12_spelt_27 ?_
  refine x_lstore (lv2 := [(5, .long (((27 * (((27 * ((Int32.toInt64 102) - 96)) + (Int32.toInt64 111)) - 96)) + (Int32.toInt64 97)) - 96)), (0, .int 102), (1, .int 111), (2, .int 97), (3, .int 109), (4, .int 0)]) dX12_spelt_28 (by decide) rfl ?_
  refine x_iload_n dX12_spelt_30 4 rfl ?_
  refine x_if_le (tgt := 49) dX12_spelt_31 (by decide) (fun c_31 => absurd c_31 (by decide)) (fun c_31 => ?_)
  refine x_ldc2 (v := 27) dX12_spelt_34 kX12_105 ?_
  refine x_lload dX12_spelt_37 0 rfl ?_
  refine x_lmul dX12_spelt_39 ?_
  refine x_iload_n dX12_spelt_40 4 rfl ?_
  refine x_i2l dX12_spelt_41 ?_
  refine x_ladd dX12_spelt_42 ?_
  refine x_ldc2 (v := 96) dX12_spelt_43 kX12_107 ?_
  refine x_lsub dX12_spelt_46 ?_
  refine x_lstore (lv2 := [(5, .long (((27 * (((27 * (((27 * ((Int32.toInt64 102) - 96)) + (Int32.toInt64 111)) - 96)) + (Int32.toInt64 97)) - 96)) + (Int32.toInt64 109)) - 96)), (0, .int 102), (1, .int 111), (2, .int 97), (3, .int 109), (4, .int 0)]) dX12_spelt_47 (by decide) rfl ?_
  refine x_iload dX12_spelt_49 5 rfl ?_
  refine x_if_le (tgt := 71) dX12_spelt_51 (by decide) (fun c_51 => ?_) (fun c_51 => absurd (by decide) c_51)
  refine x_lload dX12_spelt_71 0 rfl ?_
  exact x_lret dX12_spelt_73 rfl (congrArg (fun z => (some (Value.long z), h)) (by decide))

set_option maxRecDepth 100000 in
set_option maxHeartbeats 4000000 in
theorem c_spelt1 {G : GT} {h : List PE} : CT G mX12_spelt 0 0 [.int 116, .int 104, .int 105, .int 110, .int 103] h (fun o => o = (some (.long (lN (k27 1))), h)) := by
  show X (NF G) G mX12_spelt 0 0 0 [(0, .int 116), (1, .int 104), (2, .int 105), (3, .int 110), (4, .int 103)] [] h _
  refine x_ldc2 (v := 27) dX12_spelt_0 kX12_105 ?_
  refine x_ldc2 (v := 27) dX12_spelt_3 kX12_105 ?_
  refine x_iload_n dX12_spelt_6 0 rfl ?_
  refine x_i2l dX12_spelt_7 ?_
  refine x_ldc2 (v := 96) dX12_spelt_8 kX12_107 ?_
  refine x_lsub dX12_spelt_11 ?_
  refine x_lmul dX12_spelt_12 ?_
  refine x_iload_n dX12_spelt_13 1 rfl ?_
  refine x_i2l dX12_spelt_14 ?_
  refine x_ladd dX12_spelt_15 ?_
  refine x_ldc2 (v := 96) dX12_spelt_16 kX12_107 ?_
  refine x_lsub dX12_spelt_19 ?_
  refine x_lmul dX12_spelt_20 ?_
  refine x_iload_n dX12_spelt_21 2 rfl ?_
  refine x_i2l dX12_spelt_22 ?_
  refine x_ladd dX12_spelt_23 ?_
  refine x_ldc2 (v := 96) dX12_spelt_24 kX12_107 ?_
  refine x_lsub dX12_spelt_27 ?_
  refine x_lstore (lv2 := [(5, .long (((27 * (((27 * ((Int32.toInt64 116) - 96)) + (Int32.toInt64 104)) - 96)) + (Int32.toInt64 105)) - 96)), (0, .int 116), (1, .int 104), (2, .int 105), (3, .int 110), (4, .int 103)]) dX12_spelt_28 (by decide) rfl ?_
  refine x_iload_n dX12_spelt_30 4 rfl ?_
  refine x_if_le (tgt := 49) dX12_spelt_31 (by decide) (fun c_31 => absurd c_31 (by decide)) (fun c_31 => ?_)
  refine x_ldc2 (v := 27) dX12_spelt_34 kX12_105 ?_
  refine x_lload dX12_spelt_37 0 rfl ?_
  refine x_lmul dX12_spelt_39 ?_
  refine x_iload_n dX12_spelt_40 4 rfl ?_
  refine x_i2l dX12_spelt_41 ?_
  refine x_ladd dX12_spelt_42 ?_
  refine x_ldc2 (v := 96) dX12_spelt_43 kX12_107 ?_
  refine x_lsub dX12_spelt_46 ?_
  refine x_lstore (lv2 := [(5, .long (((27 * (((27 * (((27 * ((Int32.toInt64 116) - 96)) + (Int32.toInt64 104)) - 96)) + (Int32.toInt64 105)) - 96)) + (Int32.toInt64 110)) - 96)), (0, .int 116), (1, .int 104), (2, .int 105), (3, .int 110), (4, .int 103)]) dX12_spelt_47 (by decide) rfl ?_
  refine x_iload dX12_spelt_49 5 rfl ?_
  refine x_if_le (tgt := 71) dX12_spelt_51 (by decide) (fun c_51 => absurd c_51 (by decide)) (fun c_51 => ?_)
  refine x_ldc2 (v := 27) dX12_spelt_54 kX12_105 ?_
  refine x_lload dX12_spelt_57 0 rfl ?_
  refine x_lmul dX12_spelt_59 ?_
  refine x_iload dX12_spelt_60 5 rfl ?_
  refine x_i2l dX12_spelt_62 ?_
  refine x_ladd dX12_spelt_63 ?_
  refine x_ldc2 (v := 96) dX12_spelt_64 kX12_107 ?_
  refine x_lsub dX12_spelt_67 ?_
  refine x_goto (tgt := 73) dX12_spelt_68 (by decide) ?_
  exact x_lret dX12_spelt_73 rfl (congrArg (fun z => (some (Value.long z), h)) (by decide))

set_option maxRecDepth 100000 in
set_option maxHeartbeats 4000000 in
theorem c_spelt2 {G : GT} {h : List PE} : CT G mX12_spelt 0 0 [.int 98, .int 111, .int 120, .int 0, .int 0] h (fun o => o = (some (.long (lN (k27 2))), h)) := by
  show X (NF G) G mX12_spelt 0 0 0 [(0, .int 98), (1, .int 111), (2, .int 120), (3, .int 0), (4, .int 0)] [] h _
  refine x_ldc2 (v := 27) dX12_spelt_0 kX12_105 ?_
  refine x_ldc2 (v := 27) dX12_spelt_3 kX12_105 ?_
  refine x_iload_n dX12_spelt_6 0 rfl ?_
  refine x_i2l dX12_spelt_7 ?_
  refine x_ldc2 (v := 96) dX12_spelt_8 kX12_107 ?_
  refine x_lsub dX12_spelt_11 ?_
  refine x_lmul dX12_spelt_12 ?_
  refine x_iload_n dX12_spelt_13 1 rfl ?_
  refine x_i2l dX12_spelt_14 ?_
  refine x_ladd dX12_spelt_15 ?_
  refine x_ldc2 (v := 96) dX12_spelt_16 kX12_107 ?_
  refine x_lsub dX12_spelt_19 ?_
  refine x_lmul dX12_spelt_20 ?_
  refine x_iload_n dX12_spelt_21 2 rfl ?_
  refine x_i2l dX12_spelt_22 ?_
  refine x_ladd dX12_spelt_23 ?_
  refine x_ldc2 (v := 96) dX12_spelt_24 kX12_107 ?_
  refine x_lsub dX12_spelt_27 ?_
  refine x_lstore (lv2 := [(5, .long (((27 * (((27 * ((Int32.toInt64 98) - 96)) + (Int32.toInt64 111)) - 96)) + (Int32.toInt64 120)) - 96)), (0, .int 98), (1, .int 111), (2, .int 120), (3, .int 0), (4, .int 0)]) dX12_spelt_28 (by decide) rfl ?_
  refine x_iload_n dX12_spelt_30 4 rfl ?_
  refine x_if_le (tgt := 49) dX12_spelt_31 (by decide) (fun c_31 => ?_) (fun c_31 => absurd (by decide) c_31)
  refine x_iload dX12_spelt_49 5 rfl ?_
  refine x_if_le (tgt := 71) dX12_spelt_51 (by decide) (fun c_51 => ?_) (fun c_51 => absurd (by decide) c_51)
  refine x_lload dX12_spelt_71 0 rfl ?_
  exact x_lret dX12_spelt_73 rfl (congrArg (fun z => (some (Value.long z), h)) (by decide))

set_option maxRecDepth 100000 in
set_option maxHeartbeats 4000000 in
theorem c_spelt3 {G : GT} {h : List PE} : CT G mX12_spelt 0 0 [.int 112, .int 97, .int 100, .int 0, .int 0] h (fun o => o = (some (.long (lN (k27 3))), h)) := by
  show X (NF G) G mX12_spelt 0 0 0 [(0, .int 112), (1, .int 97), (2, .int 100), (3, .int 0), (4, .int 0)] [] h _
  refine x_ldc2 (v := 27) dX12_spelt_0 kX12_105 ?_
  refine x_ldc2 (v := 27) dX12_spelt_3 kX12_105 ?_
  refine x_iload_n dX12_spelt_6 0 rfl ?_
  refine x_i2l dX12_spelt_7 ?_
  refine x_ldc2 (v := 96) dX12_spelt_8 kX12_107 ?_
  refine x_lsub dX12_spelt_11 ?_
  refine x_lmul dX12_spelt_12 ?_
  refine x_iload_n dX12_spelt_13 1 rfl ?_
  refine x_i2l dX12_spelt_14 ?_
  refine x_ladd dX12_spelt_15 ?_
  refine x_ldc2 (v := 96) dX12_spelt_16 kX12_107 ?_
  refine x_lsub dX12_spelt_19 ?_
  refine x_lmul dX12_spelt_20 ?_
  refine x_iload_n dX12_spelt_21 2 rfl ?_
  refine x_i2l dX12_spelt_22 ?_
  refine x_ladd dX12_spelt_23 ?_
  refine x_ldc2 (v := 96) dX12_spelt_24 kX12_107 ?_
  refine x_lsub dX12_spelt_27 ?_
  refine x_lstore (lv2 := [(5, .long (((27 * (((27 * ((Int32.toInt64 112) - 96)) + (Int32.toInt64 97)) - 96)) + (Int32.toInt64 100)) - 96)), (0, .int 112), (1, .int 97), (2, .int 100), (3, .int 0), (4, .int 0)]) dX12_spelt_28 (by decide) rfl ?_
  refine x_iload_n dX12_spelt_30 4 rfl ?_
  refine x_if_le (tgt := 49) dX12_spelt_31 (by decide) (fun c_31 => ?_) (fun c_31 => absurd (by decide) c_31)
  refine x_iload dX12_spelt_49 5 rfl ?_
  refine x_if_le (tgt := 71) dX12_spelt_51 (by decide) (fun c_51 => ?_) (fun c_51 => absurd (by decide) c_51)
  refine x_lload dX12_spelt_71 0 rfl ?_
  exact x_lret dX12_spelt_73 rfl (congrArg (fun z => (some (Value.long z), h)) (by decide))

set_option maxRecDepth 100000 in
set_option maxHeartbeats 4000000 in
theorem c_spelt4 {G : GT} {h : List PE} : CT G mX12_spelt 0 0 [.int 100, .int 114, .int 111, .int 112, .int 0] h (fun o => o = (some (.long (lN (k27 4))), h)) := by
  show X (NF G) G mX12_spelt 0 0 0 [(0, .int 100), (1, .int 114), (2, .int 111), (3, .int 112), (4, .int 0)] [] h _
  refine x_ldc2 (v := 27) dX12_spelt_0 kX12_105 ?_
  refine x_ldc2 (v := 27) dX12_spelt_3 kX12_105 ?_
  refine x_iload_n dX12_spelt_6 0 rfl ?_
  refine x_i2l dX12_spelt_7 ?_
  refine x_ldc2 (v := 96) dX12_spelt_8 kX12_107 ?_
  refine x_lsub dX12_spelt_11 ?_
  refine x_lmul dX12_spelt_12 ?_
  refine x_iload_n dX12_spelt_13 1 rfl ?_
  refine x_i2l dX12_spelt_14 ?_
  refine x_ladd dX12_spelt_15 ?_
  refine x_ldc2 (v := 96) dX12_spelt_16 kX12_107 ?_
  refine x_lsub dX12_spelt_19 ?_
  refine x_lmul dX12_spelt_20 ?_
  refine x_iload_n dX12_spelt_21 2 rfl ?_
  refine x_i2l dX12_spelt_22 ?_
  refine x_ladd dX12_spelt_23 ?_
  refine x_ldc2 (v := 96) dX12_spelt_24 kX12_107 ?_
  refine x_lsub dX12_spelt_27 ?_
  refine x_lstore (lv2 := [(5, .long (((27 * (((27 * ((Int32.toInt64 100) - 96)) + (Int32.toInt64 114)) - 96)) + (Int32.toInt64 111)) - 96)), (0, .int 100), (1, .int 114), (2, .int 111), (3, .int 112), (4, .int 0)]) dX12_spelt_28 (by decide) rfl ?_
  refine x_iload_n dX12_spelt_30 4 rfl ?_
  refine x_if_le (tgt := 49) dX12_spelt_31 (by decide) (fun c_31 => absurd c_31 (by decide)) (fun c_31 => ?_)
  refine x_ldc2 (v := 27) dX12_spelt_34 kX12_105 ?_
  refine x_lload dX12_spelt_37 0 rfl ?_
  refine x_lmul dX12_spelt_39 ?_
  refine x_iload_n dX12_spelt_40 4 rfl ?_
  refine x_i2l dX12_spelt_41 ?_
  refine x_ladd dX12_spelt_42 ?_
  refine x_ldc2 (v := 96) dX12_spelt_43 kX12_107 ?_
  refine x_lsub dX12_spelt_46 ?_
  refine x_lstore (lv2 := [(5, .long (((27 * (((27 * (((27 * ((Int32.toInt64 100) - 96)) + (Int32.toInt64 114)) - 96)) + (Int32.toInt64 111)) - 96)) + (Int32.toInt64 112)) - 96)), (0, .int 100), (1, .int 114), (2, .int 111), (3, .int 112), (4, .int 0)]) dX12_spelt_47 (by decide) rfl ?_
  refine x_iload dX12_spelt_49 5 rfl ?_
  refine x_if_le (tgt := 71) dX12_spelt_51 (by decide) (fun c_51 => ?_) (fun c_51 => absurd (by decide) c_51)
  refine x_lload dX12_spelt_71 0 rfl ?_
  exact x_lret dX12_spelt_73 rfl (congrArg (fun z => (some (Value.long z), h)) (by decide))

set_option maxRecDepth 100000 in
set_option maxHeartbeats 4000000 in
theorem c_spelt5 {G : GT} {h : List PE} : CT G mX12_spelt 0 0 [.int 107, .int 101, .int 101, .int 112, .int 115] h (fun o => o = (some (.long (lN (k27 5))), h)) := by
  show X (NF G) G mX12_spelt 0 0 0 [(0, .int 107), (1, .int 101), (2, .int 101), (3, .int 112), (4, .int 115)] [] h _
  refine x_ldc2 (v := 27) dX12_spelt_0 kX12_105 ?_
  refine x_ldc2 (v := 27) dX12_spelt_3 kX12_105 ?_
  refine x_iload_n dX12_spelt_6 0 rfl ?_
  refine x_i2l dX12_spelt_7 ?_
  refine x_ldc2 (v := 96) dX12_spelt_8 kX12_107 ?_
  refine x_lsub dX12_spelt_11 ?_
  refine x_lmul dX12_spelt_12 ?_
  refine x_iload_n dX12_spelt_13 1 rfl ?_
  refine x_i2l dX12_spelt_14 ?_
  refine x_ladd dX12_spelt_15 ?_
  refine x_ldc2 (v := 96) dX12_spelt_16 kX12_107 ?_
  refine x_lsub dX12_spelt_19 ?_
  refine x_lmul dX12_spelt_20 ?_
  refine x_iload_n dX12_spelt_21 2 rfl ?_
  refine x_i2l dX12_spelt_22 ?_
  refine x_ladd dX12_spelt_23 ?_
  refine x_ldc2 (v := 96) dX12_spelt_24 kX12_107 ?_
  refine x_lsub dX12_spelt_27 ?_
  refine x_lstore (lv2 := [(5, .long (((27 * (((27 * ((Int32.toInt64 107) - 96)) + (Int32.toInt64 101)) - 96)) + (Int32.toInt64 101)) - 96)), (0, .int 107), (1, .int 101), (2, .int 101), (3, .int 112), (4, .int 115)]) dX12_spelt_28 (by decide) rfl ?_
  refine x_iload_n dX12_spelt_30 4 rfl ?_
  refine x_if_le (tgt := 49) dX12_spelt_31 (by decide) (fun c_31 => absurd c_31 (by decide)) (fun c_31 => ?_)
  refine x_ldc2 (v := 27) dX12_spelt_34 kX12_105 ?_
  refine x_lload dX12_spelt_37 0 rfl ?_
  refine x_lmul dX12_spelt_39 ?_
  refine x_iload_n dX12_spelt_40 4 rfl ?_
  refine x_i2l dX12_spelt_41 ?_
  refine x_ladd dX12_spelt_42 ?_
  refine x_ldc2 (v := 96) dX12_spelt_43 kX12_107 ?_
  refine x_lsub dX12_spelt_46 ?_
  refine x_lstore (lv2 := [(5, .long (((27 * (((27 * (((27 * ((Int32.toInt64 107) - 96)) + (Int32.toInt64 101)) - 96)) + (Int32.toInt64 101)) - 96)) + (Int32.toInt64 112)) - 96)), (0, .int 107), (1, .int 101), (2, .int 101), (3, .int 112), (4, .int 115)]) dX12_spelt_47 (by decide) rfl ?_
  refine x_iload dX12_spelt_49 5 rfl ?_
  refine x_if_le (tgt := 71) dX12_spelt_51 (by decide) (fun c_51 => absurd c_51 (by decide)) (fun c_51 => ?_)
  refine x_ldc2 (v := 27) dX12_spelt_54 kX12_105 ?_
  refine x_lload dX12_spelt_57 0 rfl ?_
  refine x_lmul dX12_spelt_59 ?_
  refine x_iload dX12_spelt_60 5 rfl ?_
  refine x_i2l dX12_spelt_62 ?_
  refine x_ladd dX12_spelt_63 ?_
  refine x_ldc2 (v := 96) dX12_spelt_64 kX12_107 ?_
  refine x_lsub dX12_spelt_67 ?_
  refine x_goto (tgt := 73) dX12_spelt_68 (by decide) ?_
  exact x_lret dX12_spelt_73 rfl (congrArg (fun z => (some (Value.long z), h)) (by decide))

set_option maxRecDepth 100000 in
set_option maxHeartbeats 4000000 in
theorem c_spelt6 {G : GT} {h : List PE} : CT G mX12_spelt 0 0 [.int 112, .int 114, .int 105, .int 99, .int 101] h (fun o => o = (some (.long (lN (k27 6))), h)) := by
  show X (NF G) G mX12_spelt 0 0 0 [(0, .int 112), (1, .int 114), (2, .int 105), (3, .int 99), (4, .int 101)] [] h _
  refine x_ldc2 (v := 27) dX12_spelt_0 kX12_105 ?_
  refine x_ldc2 (v := 27) dX12_spelt_3 kX12_105 ?_
  refine x_iload_n dX12_spelt_6 0 rfl ?_
  refine x_i2l dX12_spelt_7 ?_
  refine x_ldc2 (v := 96) dX12_spelt_8 kX12_107 ?_
  refine x_lsub dX12_spelt_11 ?_
  refine x_lmul dX12_spelt_12 ?_
  refine x_iload_n dX12_spelt_13 1 rfl ?_
  refine x_i2l dX12_spelt_14 ?_
  refine x_ladd dX12_spelt_15 ?_
  refine x_ldc2 (v := 96) dX12_spelt_16 kX12_107 ?_
  refine x_lsub dX12_spelt_19 ?_
  refine x_lmul dX12_spelt_20 ?_
  refine x_iload_n dX12_spelt_21 2 rfl ?_
  refine x_i2l dX12_spelt_22 ?_
  refine x_ladd dX12_spelt_23 ?_
  refine x_ldc2 (v := 96) dX12_spelt_24 kX12_107 ?_
  refine x_lsub dX12_spelt_27 ?_
  refine x_lstore (lv2 := [(5, .long (((27 * (((27 * ((Int32.toInt64 112) - 96)) + (Int32.toInt64 114)) - 96)) + (Int32.toInt64 105)) - 96)), (0, .int 112), (1, .int 114), (2, .int 105), (3, .int 99), (4, .int 101)]) dX12_spelt_28 (by decide) rfl ?_
  refine x_iload_n dX12_spelt_30 4 rfl ?_
  refine x_if_le (tgt := 49) dX12_spelt_31 (by decide) (fun c_31 => absurd c_31 (by decide)) (fun c_31 => ?_)
  refine x_ldc2 (v := 27) dX12_spelt_34 kX12_105 ?_
  refine x_lload dX12_spelt_37 0 rfl ?_
  refine x_lmul dX12_spelt_39 ?_
  refine x_iload_n dX12_spelt_40 4 rfl ?_
  refine x_i2l dX12_spelt_41 ?_
  refine x_ladd dX12_spelt_42 ?_
  refine x_ldc2 (v := 96) dX12_spelt_43 kX12_107 ?_
  refine x_lsub dX12_spelt_46 ?_
  refine x_lstore (lv2 := [(5, .long (((27 * (((27 * (((27 * ((Int32.toInt64 112) - 96)) + (Int32.toInt64 114)) - 96)) + (Int32.toInt64 105)) - 96)) + (Int32.toInt64 99)) - 96)), (0, .int 112), (1, .int 114), (2, .int 105), (3, .int 99), (4, .int 101)]) dX12_spelt_47 (by decide) rfl ?_
  refine x_iload dX12_spelt_49 5 rfl ?_
  refine x_if_le (tgt := 71) dX12_spelt_51 (by decide) (fun c_51 => absurd c_51 (by decide)) (fun c_51 => ?_)
  refine x_ldc2 (v := 27) dX12_spelt_54 kX12_105 ?_
  refine x_lload dX12_spelt_57 0 rfl ?_
  refine x_lmul dX12_spelt_59 ?_
  refine x_iload dX12_spelt_60 5 rfl ?_
  refine x_i2l dX12_spelt_62 ?_
  refine x_ladd dX12_spelt_63 ?_
  refine x_ldc2 (v := 96) dX12_spelt_64 kX12_107 ?_
  refine x_lsub dX12_spelt_67 ?_
  refine x_goto (tgt := 73) dX12_spelt_68 (by decide) ?_
  exact x_lret dX12_spelt_73 rfl (congrArg (fun z => (some (Value.long z), h)) (by decide))

set_option maxRecDepth 100000 in
set_option maxHeartbeats 4000000 in
theorem c_spelt8 {G : GT} {h : List PE} : CT G mX12_spelt 0 0 [.int 115, .int 105, .int 122, .int 101, .int 0] h (fun o => o = (some (.long (lN (k27 8))), h)) := by
  show X (NF G) G mX12_spelt 0 0 0 [(0, .int 115), (1, .int 105), (2, .int 122), (3, .int 101), (4, .int 0)] [] h _
  refine x_ldc2 (v := 27) dX12_spelt_0 kX12_105 ?_
  refine x_ldc2 (v := 27) dX12_spelt_3 kX12_105 ?_
  refine x_iload_n dX12_spelt_6 0 rfl ?_
  refine x_i2l dX12_spelt_7 ?_
  refine x_ldc2 (v := 96) dX12_spelt_8 kX12_107 ?_
  refine x_lsub dX12_spelt_11 ?_
  refine x_lmul dX12_spelt_12 ?_
  refine x_iload_n dX12_spelt_13 1 rfl ?_
  refine x_i2l dX12_spelt_14 ?_
  refine x_ladd dX12_spelt_15 ?_
  refine x_ldc2 (v := 96) dX12_spelt_16 kX12_107 ?_
  refine x_lsub dX12_spelt_19 ?_
  refine x_lmul dX12_spelt_20 ?_
  refine x_iload_n dX12_spelt_21 2 rfl ?_
  refine x_i2l dX12_spelt_22 ?_
  refine x_ladd dX12_spelt_23 ?_
  refine x_ldc2 (v := 96) dX12_spelt_24 kX12_107 ?_
  refine x_lsub dX12_spelt_27 ?_
  refine x_lstore (lv2 := [(5, .long (((27 * (((27 * ((Int32.toInt64 115) - 96)) + (Int32.toInt64 105)) - 96)) + (Int32.toInt64 122)) - 96)), (0, .int 115), (1, .int 105), (2, .int 122), (3, .int 101), (4, .int 0)]) dX12_spelt_28 (by decide) rfl ?_
  refine x_iload_n dX12_spelt_30 4 rfl ?_
  refine x_if_le (tgt := 49) dX12_spelt_31 (by decide) (fun c_31 => absurd c_31 (by decide)) (fun c_31 => ?_)
  refine x_ldc2 (v := 27) dX12_spelt_34 kX12_105 ?_
  refine x_lload dX12_spelt_37 0 rfl ?_
  refine x_lmul dX12_spelt_39 ?_
  refine x_iload_n dX12_spelt_40 4 rfl ?_
  refine x_i2l dX12_spelt_41 ?_
  refine x_ladd dX12_spelt_42 ?_
  refine x_ldc2 (v := 96) dX12_spelt_43 kX12_107 ?_
  refine x_lsub dX12_spelt_46 ?_
  refine x_lstore (lv2 := [(5, .long (((27 * (((27 * (((27 * ((Int32.toInt64 115) - 96)) + (Int32.toInt64 105)) - 96)) + (Int32.toInt64 122)) - 96)) + (Int32.toInt64 101)) - 96)), (0, .int 115), (1, .int 105), (2, .int 122), (3, .int 101), (4, .int 0)]) dX12_spelt_47 (by decide) rfl ?_
  refine x_iload dX12_spelt_49 5 rfl ?_
  refine x_if_le (tgt := 71) dX12_spelt_51 (by decide) (fun c_51 => ?_) (fun c_51 => absurd (by decide) c_51)
  refine x_lload dX12_spelt_71 0 rfl ?_
  exact x_lret dX12_spelt_73 rfl (congrArg (fun z => (some (Value.long z), h)) (by decide))

set_option maxRecDepth 100000 in
set_option maxHeartbeats 4000000 in
theorem c_spelt9 {G : GT} {h : List PE} : CT G mX12_spelt 0 0 [.int 109, .int 97, .int 114, .int 107, .int 0] h (fun o => o = (some (.long (lN (k27 9))), h)) := by
  show X (NF G) G mX12_spelt 0 0 0 [(0, .int 109), (1, .int 97), (2, .int 114), (3, .int 107), (4, .int 0)] [] h _
  refine x_ldc2 (v := 27) dX12_spelt_0 kX12_105 ?_
  refine x_ldc2 (v := 27) dX12_spelt_3 kX12_105 ?_
  refine x_iload_n dX12_spelt_6 0 rfl ?_
  refine x_i2l dX12_spelt_7 ?_
  refine x_ldc2 (v := 96) dX12_spelt_8 kX12_107 ?_
  refine x_lsub dX12_spelt_11 ?_
  refine x_lmul dX12_spelt_12 ?_
  refine x_iload_n dX12_spelt_13 1 rfl ?_
  refine x_i2l dX12_spelt_14 ?_
  refine x_ladd dX12_spelt_15 ?_
  refine x_ldc2 (v := 96) dX12_spelt_16 kX12_107 ?_
  refine x_lsub dX12_spelt_19 ?_
  refine x_lmul dX12_spelt_20 ?_
  refine x_iload_n dX12_spelt_21 2 rfl ?_
  refine x_i2l dX12_spelt_22 ?_
  refine x_ladd dX12_spelt_23 ?_
  refine x_ldc2 (v := 96) dX12_spelt_24 kX12_107 ?_
  refine x_lsub dX12_spelt_27 ?_
  refine x_lstore (lv2 := [(5, .long (((27 * (((27 * ((Int32.toInt64 109) - 96)) + (Int32.toInt64 97)) - 96)) + (Int32.toInt64 114)) - 96)), (0, .int 109), (1, .int 97), (2, .int 114), (3, .int 107), (4, .int 0)]) dX12_spelt_28 (by decide) rfl ?_
  refine x_iload_n dX12_spelt_30 4 rfl ?_
  refine x_if_le (tgt := 49) dX12_spelt_31 (by decide) (fun c_31 => absurd c_31 (by decide)) (fun c_31 => ?_)
  refine x_ldc2 (v := 27) dX12_spelt_34 kX12_105 ?_
  refine x_lload dX12_spelt_37 0 rfl ?_
  refine x_lmul dX12_spelt_39 ?_
  refine x_iload_n dX12_spelt_40 4 rfl ?_
  refine x_i2l dX12_spelt_41 ?_
  refine x_ladd dX12_spelt_42 ?_
  refine x_ldc2 (v := 96) dX12_spelt_43 kX12_107 ?_
  refine x_lsub dX12_spelt_46 ?_
  refine x_lstore (lv2 := [(5, .long (((27 * (((27 * (((27 * ((Int32.toInt64 109) - 96)) + (Int32.toInt64 97)) - 96)) + (Int32.toInt64 114)) - 96)) + (Int32.toInt64 107)) - 96)), (0, .int 109), (1, .int 97), (2, .int 114), (3, .int 107), (4, .int 0)]) dX12_spelt_47 (by decide) rfl ?_
  refine x_iload dX12_spelt_49 5 rfl ?_
  refine x_if_le (tgt := 71) dX12_spelt_51 (by decide) (fun c_51 => ?_) (fun c_51 => absurd (by decide) c_51)
  refine x_lload dX12_spelt_71 0 rfl ?_
  exact x_lret dX12_spelt_73 rfl (congrArg (fun z => (some (Value.long z), h)) (by decide))

set_option maxRecDepth 100000 in
set_option maxHeartbeats 4000000 in
theorem c_spelt10 {G : GT} {h : List PE} : CT G mX12_spelt 0 0 [.int 114, .int 111, .int 111, .int 109, .int 0] h (fun o => o = (some (.long (lN (k27 10))), h)) := by
  show X (NF G) G mX12_spelt 0 0 0 [(0, .int 114), (1, .int 111), (2, .int 111), (3, .int 109), (4, .int 0)] [] h _
  refine x_ldc2 (v := 27) dX12_spelt_0 kX12_105 ?_
  refine x_ldc2 (v := 27) dX12_spelt_3 kX12_105 ?_
  refine x_iload_n dX12_spelt_6 0 rfl ?_
  refine x_i2l dX12_spelt_7 ?_
  refine x_ldc2 (v := 96) dX12_spelt_8 kX12_107 ?_
  refine x_lsub dX12_spelt_11 ?_
  refine x_lmul dX12_spelt_12 ?_
  refine x_iload_n dX12_spelt_13 1 rfl ?_
  refine x_i2l dX12_spelt_14 ?_
  refine x_ladd dX12_spelt_15 ?_
  refine x_ldc2 (v := 96) dX12_spelt_16 kX12_107 ?_
  refine x_lsub dX12_spelt_19 ?_
  refine x_lmul dX12_spelt_20 ?_
  refine x_iload_n dX12_spelt_21 2 rfl ?_
  refine x_i2l dX12_spelt_22 ?_
  refine x_ladd dX12_spelt_23 ?_
  refine x_ldc2 (v := 96) dX12_spelt_24 kX12_107 ?_
  refine x_lsub dX12_spelt_27 ?_
  refine x_lstore (lv2 := [(5, .long (((27 * (((27 * ((Int32.toInt64 114) - 96)) + (Int32.toInt64 111)) - 96)) + (Int32.toInt64 111)) - 96)), (0, .int 114), (1, .int 111), (2, .int 111), (3, .int 109), (4, .int 0)]) dX12_spelt_28 (by decide) rfl ?_
  refine x_iload_n dX12_spelt_30 4 rfl ?_
  refine x_if_le (tgt := 49) dX12_spelt_31 (by decide) (fun c_31 => absurd c_31 (by decide)) (fun c_31 => ?_)
  refine x_ldc2 (v := 27) dX12_spelt_34 kX12_105 ?_
  refine x_lload dX12_spelt_37 0 rfl ?_
  refine x_lmul dX12_spelt_39 ?_
  refine x_iload_n dX12_spelt_40 4 rfl ?_
  refine x_i2l dX12_spelt_41 ?_
  refine x_ladd dX12_spelt_42 ?_
  refine x_ldc2 (v := 96) dX12_spelt_43 kX12_107 ?_
  refine x_lsub dX12_spelt_46 ?_
  refine x_lstore (lv2 := [(5, .long (((27 * (((27 * (((27 * ((Int32.toInt64 114) - 96)) + (Int32.toInt64 111)) - 96)) + (Int32.toInt64 111)) - 96)) + (Int32.toInt64 109)) - 96)), (0, .int 114), (1, .int 111), (2, .int 111), (3, .int 109), (4, .int 0)]) dX12_spelt_47 (by decide) rfl ?_
  refine x_iload dX12_spelt_49 5 rfl ?_
  refine x_if_le (tgt := 71) dX12_spelt_51 (by decide) (fun c_51 => ?_) (fun c_51 => absurd (by decide) c_51)
  refine x_lload dX12_spelt_71 0 rfl ?_
  exact x_lret dX12_spelt_73 rfl (congrArg (fun z => (some (Value.long z), h)) (by decide))

set_option maxRecDepth 100000 in
set_option maxHeartbeats 4000000 in
theorem c_spelt11 {G : GT} {h : List PE} : CT G mX12_spelt 0 0 [.int 98, .int 101, .int 97, .int 114, .int 115] h (fun o => o = (some (.long (lN (k27 11))), h)) := by
  show X (NF G) G mX12_spelt 0 0 0 [(0, .int 98), (1, .int 101), (2, .int 97), (3, .int 114), (4, .int 115)] [] h _
  refine x_ldc2 (v := 27) dX12_spelt_0 kX12_105 ?_
  refine x_ldc2 (v := 27) dX12_spelt_3 kX12_105 ?_
  refine x_iload_n dX12_spelt_6 0 rfl ?_
  refine x_i2l dX12_spelt_7 ?_
  refine x_ldc2 (v := 96) dX12_spelt_8 kX12_107 ?_
  refine x_lsub dX12_spelt_11 ?_
  refine x_lmul dX12_spelt_12 ?_
  refine x_iload_n dX12_spelt_13 1 rfl ?_
  refine x_i2l dX12_spelt_14 ?_
  refine x_ladd dX12_spelt_15 ?_
  refine x_ldc2 (v := 96) dX12_spelt_16 kX12_107 ?_
  refine x_lsub dX12_spelt_19 ?_
  refine x_lmul dX12_spelt_20 ?_
  refine x_iload_n dX12_spelt_21 2 rfl ?_
  refine x_i2l dX12_spelt_22 ?_
  refine x_ladd dX12_spelt_23 ?_
  refine x_ldc2 (v := 96) dX12_spelt_24 kX12_107 ?_
  refine x_lsub dX12_spelt_27 ?_
  refine x_lstore (lv2 := [(5, .long (((27 * (((27 * ((Int32.toInt64 98) - 96)) + (Int32.toInt64 101)) - 96)) + (Int32.toInt64 97)) - 96)), (0, .int 98), (1, .int 101), (2, .int 97), (3, .int 114), (4, .int 115)]) dX12_spelt_28 (by decide) rfl ?_
  refine x_iload_n dX12_spelt_30 4 rfl ?_
  refine x_if_le (tgt := 49) dX12_spelt_31 (by decide) (fun c_31 => absurd c_31 (by decide)) (fun c_31 => ?_)
  refine x_ldc2 (v := 27) dX12_spelt_34 kX12_105 ?_
  refine x_lload dX12_spelt_37 0 rfl ?_
  refine x_lmul dX12_spelt_39 ?_
  refine x_iload_n dX12_spelt_40 4 rfl ?_
  refine x_i2l dX12_spelt_41 ?_
  refine x_ladd dX12_spelt_42 ?_
  refine x_ldc2 (v := 96) dX12_spelt_43 kX12_107 ?_
  refine x_lsub dX12_spelt_46 ?_
  refine x_lstore (lv2 := [(5, .long (((27 * (((27 * (((27 * ((Int32.toInt64 98) - 96)) + (Int32.toInt64 101)) - 96)) + (Int32.toInt64 97)) - 96)) + (Int32.toInt64 114)) - 96)), (0, .int 98), (1, .int 101), (2, .int 97), (3, .int 114), (4, .int 115)]) dX12_spelt_47 (by decide) rfl ?_
  refine x_iload dX12_spelt_49 5 rfl ?_
  refine x_if_le (tgt := 71) dX12_spelt_51 (by decide) (fun c_51 => absurd c_51 (by decide)) (fun c_51 => ?_)
  refine x_ldc2 (v := 27) dX12_spelt_54 kX12_105 ?_
  refine x_lload dX12_spelt_57 0 rfl ?_
  refine x_lmul dX12_spelt_59 ?_
  refine x_iload dX12_spelt_60 5 rfl ?_
  refine x_i2l dX12_spelt_62 ?_
  refine x_ladd dX12_spelt_63 ?_
  refine x_ldc2 (v := 96) dX12_spelt_64 kX12_107 ?_
  refine x_lsub dX12_spelt_67 ?_
  refine x_goto (tgt := 73) dX12_spelt_68 (by decide) ?_
  exact x_lret dX12_spelt_73 rfl (congrArg (fun z => (some (Value.long z), h)) (by decide))

set_option maxRecDepth 100000 in
set_option maxHeartbeats 4000000 in
theorem c_spelt12 {G : GT} {h : List PE} : CT G mX12_spelt 0 0 [.int 115, .int 105, .int 100, .int 101, .int 0] h (fun o => o = (some (.long (lN (k27 12))), h)) := by
  show X (NF G) G mX12_spelt 0 0 0 [(0, .int 115), (1, .int 105), (2, .int 100), (3, .int 101), (4, .int 0)] [] h _
  refine x_ldc2 (v := 27) dX12_spelt_0 kX12_105 ?_
  refine x_ldc2 (v := 27) dX12_spelt_3 kX12_105 ?_
  refine x_iload_n dX12_spelt_6 0 rfl ?_
  refine x_i2l dX12_spelt_7 ?_
  refine x_ldc2 (v := 96) dX12_spelt_8 kX12_107 ?_
  refine x_lsub dX12_spelt_11 ?_
  refine x_lmul dX12_spelt_12 ?_
  refine x_iload_n dX12_spelt_13 1 rfl ?_
  refine x_i2l dX12_spelt_14 ?_
  refine x_ladd dX12_spelt_15 ?_
  refine x_ldc2 (v := 96) dX12_spelt_16 kX12_107 ?_
  refine x_lsub dX12_spelt_19 ?_
  refine x_lmul dX12_spelt_20 ?_
  refine x_iload_n dX12_spelt_21 2 rfl ?_
  refine x_i2l dX12_spelt_22 ?_
  refine x_ladd dX12_spelt_23 ?_
  refine x_ldc2 (v := 96) dX12_spelt_24 kX12_107 ?_
  refine x_lsub dX12_spelt_27 ?_
  refine x_lstore (lv2 := [(5, .long (((27 * (((27 * ((Int32.toInt64 115) - 96)) + (Int32.toInt64 105)) - 96)) + (Int32.toInt64 100)) - 96)), (0, .int 115), (1, .int 105), (2, .int 100), (3, .int 101), (4, .int 0)]) dX12_spelt_28 (by decide) rfl ?_
  refine x_iload_n dX12_spelt_30 4 rfl ?_
  refine x_if_le (tgt := 49) dX12_spelt_31 (by decide) (fun c_31 => absurd c_31 (by decide)) (fun c_31 => ?_)
  refine x_ldc2 (v := 27) dX12_spelt_34 kX12_105 ?_
  refine x_lload dX12_spelt_37 0 rfl ?_
  refine x_lmul dX12_spelt_39 ?_
  refine x_iload_n dX12_spelt_40 4 rfl ?_
  refine x_i2l dX12_spelt_41 ?_
  refine x_ladd dX12_spelt_42 ?_
  refine x_ldc2 (v := 96) dX12_spelt_43 kX12_107 ?_
  refine x_lsub dX12_spelt_46 ?_
  refine x_lstore (lv2 := [(5, .long (((27 * (((27 * (((27 * ((Int32.toInt64 115) - 96)) + (Int32.toInt64 105)) - 96)) + (Int32.toInt64 100)) - 96)) + (Int32.toInt64 101)) - 96)), (0, .int 115), (1, .int 105), (2, .int 100), (3, .int 101), (4, .int 0)]) dX12_spelt_47 (by decide) rfl ?_
  refine x_iload dX12_spelt_49 5 rfl ?_
  refine x_if_le (tgt := 71) dX12_spelt_51 (by decide) (fun c_51 => ?_) (fun c_51 => absurd (by decide) c_51)
  refine x_lload dX12_spelt_71 0 rfl ?_
  exact x_lret dX12_spelt_73 rfl (congrArg (fun z => (some (Value.long z), h)) (by decide))

set_option maxRecDepth 100000 in
set_option maxHeartbeats 4000000 in
theorem c_spelt13 {G : GT} {h : List PE} : CT G mX12_spelt 0 0 [.int 116, .int 104, .int 105, .int 99, .int 107] h (fun o => o = (some (.long (lN (k27 13))), h)) := by
  show X (NF G) G mX12_spelt 0 0 0 [(0, .int 116), (1, .int 104), (2, .int 105), (3, .int 99), (4, .int 107)] [] h _
  refine x_ldc2 (v := 27) dX12_spelt_0 kX12_105 ?_
  refine x_ldc2 (v := 27) dX12_spelt_3 kX12_105 ?_
  refine x_iload_n dX12_spelt_6 0 rfl ?_
  refine x_i2l dX12_spelt_7 ?_
  refine x_ldc2 (v := 96) dX12_spelt_8 kX12_107 ?_
  refine x_lsub dX12_spelt_11 ?_
  refine x_lmul dX12_spelt_12 ?_
  refine x_iload_n dX12_spelt_13 1 rfl ?_
  refine x_i2l dX12_spelt_14 ?_
  refine x_ladd dX12_spelt_15 ?_
  refine x_ldc2 (v := 96) dX12_spelt_16 kX12_107 ?_
  refine x_lsub dX12_spelt_19 ?_
  refine x_lmul dX12_spelt_20 ?_
  refine x_iload_n dX12_spelt_21 2 rfl ?_
  refine x_i2l dX12_spelt_22 ?_
  refine x_ladd dX12_spelt_23 ?_
  refine x_ldc2 (v := 96) dX12_spelt_24 kX12_107 ?_
  refine x_lsub dX12_spelt_27 ?_
  refine x_lstore (lv2 := [(5, .long (((27 * (((27 * ((Int32.toInt64 116) - 96)) + (Int32.toInt64 104)) - 96)) + (Int32.toInt64 105)) - 96)), (0, .int 116), (1, .int 104), (2, .int 105), (3, .int 99), (4, .int 107)]) dX12_spelt_28 (by decide) rfl ?_
  refine x_iload_n dX12_spelt_30 4 rfl ?_
  refine x_if_le (tgt := 49) dX12_spelt_31 (by decide) (fun c_31 => absurd c_31 (by decide)) (fun c_31 => ?_)
  refine x_ldc2 (v := 27) dX12_spelt_34 kX12_105 ?_
  refine x_lload dX12_spelt_37 0 rfl ?_
  refine x_lmul dX12_spelt_39 ?_
  refine x_iload_n dX12_spelt_40 4 rfl ?_
  refine x_i2l dX12_spelt_41 ?_
  refine x_ladd dX12_spelt_42 ?_
  refine x_ldc2 (v := 96) dX12_spelt_43 kX12_107 ?_
  refine x_lsub dX12_spelt_46 ?_
  refine x_lstore (lv2 := [(5, .long (((27 * (((27 * (((27 * ((Int32.toInt64 116) - 96)) + (Int32.toInt64 104)) - 96)) + (Int32.toInt64 105)) - 96)) + (Int32.toInt64 99)) - 96)), (0, .int 116), (1, .int 104), (2, .int 105), (3, .int 99), (4, .int 107)]) dX12_spelt_47 (by decide) rfl ?_
  refine x_iload dX12_spelt_49 5 rfl ?_
  refine x_if_le (tgt := 71) dX12_spelt_51 (by decide) (fun c_51 => absurd c_51 (by decide)) (fun c_51 => ?_)
  refine x_ldc2 (v := 27) dX12_spelt_54 kX12_105 ?_
  refine x_lload dX12_spelt_57 0 rfl ?_
  refine x_lmul dX12_spelt_59 ?_
  refine x_iload dX12_spelt_60 5 rfl ?_
  refine x_i2l dX12_spelt_62 ?_
  refine x_ladd dX12_spelt_63 ?_
  refine x_ldc2 (v := 96) dX12_spelt_64 kX12_107 ?_
  refine x_lsub dX12_spelt_67 ?_
  refine x_goto (tgt := 73) dX12_spelt_68 (by decide) ?_
  exact x_lret dX12_spelt_73 rfl (congrArg (fun z => (some (Value.long z), h)) (by decide))

set_option maxRecDepth 100000 in
set_option maxHeartbeats 4000000 in
theorem c_spelt14 {G : GT} {h : List PE} : CT G mX12_spelt 0 0 [.int 97, .int 114, .int 101, .int 97, .int 0] h (fun o => o = (some (.long (lN (k27 14))), h)) := by
  show X (NF G) G mX12_spelt 0 0 0 [(0, .int 97), (1, .int 114), (2, .int 101), (3, .int 97), (4, .int 0)] [] h _
  refine x_ldc2 (v := 27) dX12_spelt_0 kX12_105 ?_
  refine x_ldc2 (v := 27) dX12_spelt_3 kX12_105 ?_
  refine x_iload_n dX12_spelt_6 0 rfl ?_
  refine x_i2l dX12_spelt_7 ?_
  refine x_ldc2 (v := 96) dX12_spelt_8 kX12_107 ?_
  refine x_lsub dX12_spelt_11 ?_
  refine x_lmul dX12_spelt_12 ?_
  refine x_iload_n dX12_spelt_13 1 rfl ?_
  refine x_i2l dX12_spelt_14 ?_
  refine x_ladd dX12_spelt_15 ?_
  refine x_ldc2 (v := 96) dX12_spelt_16 kX12_107 ?_
  refine x_lsub dX12_spelt_19 ?_
  refine x_lmul dX12_spelt_20 ?_
  refine x_iload_n dX12_spelt_21 2 rfl ?_
  refine x_i2l dX12_spelt_22 ?_
  refine x_ladd dX12_spelt_23 ?_
  refine x_ldc2 (v := 96) dX12_spelt_24 kX12_107 ?_
  refine x_lsub dX12_spelt_27 ?_
  refine x_lstore (lv2 := [(5, .long (((27 * (((27 * ((Int32.toInt64 97) - 96)) + (Int32.toInt64 114)) - 96)) + (Int32.toInt64 101)) - 96)), (0, .int 97), (1, .int 114), (2, .int 101), (3, .int 97), (4, .int 0)]) dX12_spelt_28 (by decide) rfl ?_
  refine x_iload_n dX12_spelt_30 4 rfl ?_
  refine x_if_le (tgt := 49) dX12_spelt_31 (by decide) (fun c_31 => absurd c_31 (by decide)) (fun c_31 => ?_)
  refine x_ldc2 (v := 27) dX12_spelt_34 kX12_105 ?_
  refine x_lload dX12_spelt_37 0 rfl ?_
  refine x_lmul dX12_spelt_39 ?_
  refine x_iload_n dX12_spelt_40 4 rfl ?_
  refine x_i2l dX12_spelt_41 ?_
  refine x_ladd dX12_spelt_42 ?_
  refine x_ldc2 (v := 96) dX12_spelt_43 kX12_107 ?_
  refine x_lsub dX12_spelt_46 ?_
  refine x_lstore (lv2 := [(5, .long (((27 * (((27 * (((27 * ((Int32.toInt64 97) - 96)) + (Int32.toInt64 114)) - 96)) + (Int32.toInt64 101)) - 96)) + (Int32.toInt64 97)) - 96)), (0, .int 97), (1, .int 114), (2, .int 101), (3, .int 97), (4, .int 0)]) dX12_spelt_47 (by decide) rfl ?_
  refine x_iload dX12_spelt_49 5 rfl ?_
  refine x_if_le (tgt := 71) dX12_spelt_51 (by decide) (fun c_51 => ?_) (fun c_51 => absurd (by decide) c_51)
  refine x_lload dX12_spelt_71 0 rfl ?_
  exact x_lret dX12_spelt_73 rfl (congrArg (fun z => (some (Value.long z), h)) (by decide))

set_option maxRecDepth 100000 in
set_option maxHeartbeats 4000000 in
theorem c_spelt15 {G : GT} {h : List PE} : CT G mX12_spelt 0 0 [.int 102, .int 114, .int 111, .int 109, .int 0] h (fun o => o = (some (.long (lN (k27 15))), h)) := by
  show X (NF G) G mX12_spelt 0 0 0 [(0, .int 102), (1, .int 114), (2, .int 111), (3, .int 109), (4, .int 0)] [] h _
  refine x_ldc2 (v := 27) dX12_spelt_0 kX12_105 ?_
  refine x_ldc2 (v := 27) dX12_spelt_3 kX12_105 ?_
  refine x_iload_n dX12_spelt_6 0 rfl ?_
  refine x_i2l dX12_spelt_7 ?_
  refine x_ldc2 (v := 96) dX12_spelt_8 kX12_107 ?_
  refine x_lsub dX12_spelt_11 ?_
  refine x_lmul dX12_spelt_12 ?_
  refine x_iload_n dX12_spelt_13 1 rfl ?_
  refine x_i2l dX12_spelt_14 ?_
  refine x_ladd dX12_spelt_15 ?_
  refine x_ldc2 (v := 96) dX12_spelt_16 kX12_107 ?_
  refine x_lsub dX12_spelt_19 ?_
  refine x_lmul dX12_spelt_20 ?_
  refine x_iload_n dX12_spelt_21 2 rfl ?_
  refine x_i2l dX12_spelt_22 ?_
  refine x_ladd dX12_spelt_23 ?_
  refine x_ldc2 (v := 96) dX12_spelt_24 kX12_107 ?_
  refine x_lsub dX12_spelt_27 ?_
  refine x_lstore (lv2 := [(5, .long (((27 * (((27 * ((Int32.toInt64 102) - 96)) + (Int32.toInt64 114)) - 96)) + (Int32.toInt64 111)) - 96)), (0, .int 102), (1, .int 114), (2, .int 111), (3, .int 109), (4, .int 0)]) dX12_spelt_28 (by decide) rfl ?_
  refine x_iload_n dX12_spelt_30 4 rfl ?_
  refine x_if_le (tgt := 49) dX12_spelt_31 (by decide) (fun c_31 => absurd c_31 (by decide)) (fun c_31 => ?_)
  refine x_ldc2 (v := 27) dX12_spelt_34 kX12_105 ?_
  refine x_lload dX12_spelt_37 0 rfl ?_
  refine x_lmul dX12_spelt_39 ?_
  refine x_iload_n dX12_spelt_40 4 rfl ?_
  refine x_i2l dX12_spelt_41 ?_
  refine x_ladd dX12_spelt_42 ?_
  refine x_ldc2 (v := 96) dX12_spelt_43 kX12_107 ?_
  refine x_lsub dX12_spelt_46 ?_
  refine x_lstore (lv2 := [(5, .long (((27 * (((27 * (((27 * ((Int32.toInt64 102) - 96)) + (Int32.toInt64 114)) - 96)) + (Int32.toInt64 111)) - 96)) + (Int32.toInt64 109)) - 96)), (0, .int 102), (1, .int 114), (2, .int 111), (3, .int 109), (4, .int 0)]) dX12_spelt_47 (by decide) rfl ?_
  refine x_iload dX12_spelt_49 5 rfl ?_
  refine x_if_le (tgt := 71) dX12_spelt_51 (by decide) (fun c_51 => ?_) (fun c_51 => absurd (by decide) c_51)
  refine x_lload dX12_spelt_71 0 rfl ?_
  exact x_lret dX12_spelt_73 rfl (congrArg (fun z => (some (Value.long z), h)) (by decide))

set_option maxRecDepth 100000 in
set_option maxHeartbeats 4000000 in
theorem c_spelt16 {G : GT} {h : List PE} : CT G mX12_spelt 0 0 [.int 116, .int 105, .int 109, .int 101, .int 115] h (fun o => o = (some (.long (lN (k27 16))), h)) := by
  show X (NF G) G mX12_spelt 0 0 0 [(0, .int 116), (1, .int 105), (2, .int 109), (3, .int 101), (4, .int 115)] [] h _
  refine x_ldc2 (v := 27) dX12_spelt_0 kX12_105 ?_
  refine x_ldc2 (v := 27) dX12_spelt_3 kX12_105 ?_
  refine x_iload_n dX12_spelt_6 0 rfl ?_
  refine x_i2l dX12_spelt_7 ?_
  refine x_ldc2 (v := 96) dX12_spelt_8 kX12_107 ?_
  refine x_lsub dX12_spelt_11 ?_
  refine x_lmul dX12_spelt_12 ?_
  refine x_iload_n dX12_spelt_13 1 rfl ?_
  refine x_i2l dX12_spelt_14 ?_
  refine x_ladd dX12_spelt_15 ?_
  refine x_ldc2 (v := 96) dX12_spelt_16 kX12_107 ?_
  refine x_lsub dX12_spelt_19 ?_
  refine x_lmul dX12_spelt_20 ?_
  refine x_iload_n dX12_spelt_21 2 rfl ?_
  refine x_i2l dX12_spelt_22 ?_
  refine x_ladd dX12_spelt_23 ?_
  refine x_ldc2 (v := 96) dX12_spelt_24 kX12_107 ?_
  refine x_lsub dX12_spelt_27 ?_
  refine x_lstore (lv2 := [(5, .long (((27 * (((27 * ((Int32.toInt64 116) - 96)) + (Int32.toInt64 105)) - 96)) + (Int32.toInt64 109)) - 96)), (0, .int 116), (1, .int 105), (2, .int 109), (3, .int 101), (4, .int 115)]) dX12_spelt_28 (by decide) rfl ?_
  refine x_iload_n dX12_spelt_30 4 rfl ?_
  refine x_if_le (tgt := 49) dX12_spelt_31 (by decide) (fun c_31 => absurd c_31 (by decide)) (fun c_31 => ?_)
  refine x_ldc2 (v := 27) dX12_spelt_34 kX12_105 ?_
  refine x_lload dX12_spelt_37 0 rfl ?_
  refine x_lmul dX12_spelt_39 ?_
  refine x_iload_n dX12_spelt_40 4 rfl ?_
  refine x_i2l dX12_spelt_41 ?_
  refine x_ladd dX12_spelt_42 ?_
  refine x_ldc2 (v := 96) dX12_spelt_43 kX12_107 ?_
  refine x_lsub dX12_spelt_46 ?_
  refine x_lstore (lv2 := [(5, .long (((27 * (((27 * (((27 * ((Int32.toInt64 116) - 96)) + (Int32.toInt64 105)) - 96)) + (Int32.toInt64 109)) - 96)) + (Int32.toInt64 101)) - 96)), (0, .int 116), (1, .int 105), (2, .int 109), (3, .int 101), (4, .int 115)]) dX12_spelt_47 (by decide) rfl ?_
  refine x_iload dX12_spelt_49 5 rfl ?_
  refine x_if_le (tgt := 71) dX12_spelt_51 (by decide) (fun c_51 => absurd c_51 (by decide)) (fun c_51 => ?_)
  refine x_ldc2 (v := 27) dX12_spelt_54 kX12_105 ?_
  refine x_lload dX12_spelt_57 0 rfl ?_
  refine x_lmul dX12_spelt_59 ?_
  refine x_iload dX12_spelt_60 5 rfl ?_
  refine x_i2l dX12_spelt_62 ?_
  refine x_ladd dX12_spelt_63 ?_
  refine x_ldc2 (v := 96) dX12_spelt_64 kX12_107 ?_
  refine x_lsub dX12_spelt_67 ?_
  refine x_goto (tgt := 73) dX12_spelt_68 (by decide) ?_
  exact x_lret dX12_spelt_73 rfl (congrArg (fun z => (some (Value.long z), h)) (by decide))

set_option maxRecDepth 100000 in
set_option maxHeartbeats 4000000 in
theorem c_spelt99 {G : GT} {h : List PE} : CT G mX12_spelt 0 0 [.int 119, .int 101, .int 105, .int 103, .int 104] h (fun o => o = (some (.long (lN WGH)), h)) := by
  show X (NF G) G mX12_spelt 0 0 0 [(0, .int 119), (1, .int 101), (2, .int 105), (3, .int 103), (4, .int 104)] [] h _
  refine x_ldc2 (v := 27) dX12_spelt_0 kX12_105 ?_
  refine x_ldc2 (v := 27) dX12_spelt_3 kX12_105 ?_
  refine x_iload_n dX12_spelt_6 0 rfl ?_
  refine x_i2l dX12_spelt_7 ?_
  refine x_ldc2 (v := 96) dX12_spelt_8 kX12_107 ?_
  refine x_lsub dX12_spelt_11 ?_
  refine x_lmul dX12_spelt_12 ?_
  refine x_iload_n dX12_spelt_13 1 rfl ?_
  refine x_i2l dX12_spelt_14 ?_
  refine x_ladd dX12_spelt_15 ?_
  refine x_ldc2 (v := 96) dX12_spelt_16 kX12_107 ?_
  refine x_lsub dX12_spelt_19 ?_
  refine x_lmul dX12_spelt_20 ?_
  refine x_iload_n dX12_spelt_21 2 rfl ?_
  refine x_i2l dX12_spelt_22 ?_
  refine x_ladd dX12_spelt_23 ?_
  refine x_ldc2 (v := 96) dX12_spelt_24 kX12_107 ?_
  refine x_lsub dX12_spelt_27 ?_
  refine x_lstore (lv2 := [(5, .long (((27 * (((27 * ((Int32.toInt64 119) - 96)) + (Int32.toInt64 101)) - 96)) + (Int32.toInt64 105)) - 96)), (0, .int 119), (1, .int 101), (2, .int 105), (3, .int 103), (4, .int 104)]) dX12_spelt_28 (by decide) rfl ?_
  refine x_iload_n dX12_spelt_30 4 rfl ?_
  refine x_if_le (tgt := 49) dX12_spelt_31 (by decide) (fun c_31 => absurd c_31 (by decide)) (fun c_31 => ?_)
  refine x_ldc2 (v := 27) dX12_spelt_34 kX12_105 ?_
  refine x_lload dX12_spelt_37 0 rfl ?_
  refine x_lmul dX12_spelt_39 ?_
  refine x_iload_n dX12_spelt_40 4 rfl ?_
  refine x_i2l dX12_spelt_41 ?_
  refine x_ladd dX12_spelt_42 ?_
  refine x_ldc2 (v := 96) dX12_spelt_43 kX12_107 ?_
  refine x_lsub dX12_spelt_46 ?_
  refine x_lstore (lv2 := [(5, .long (((27 * (((27 * (((27 * ((Int32.toInt64 119) - 96)) + (Int32.toInt64 101)) - 96)) + (Int32.toInt64 105)) - 96)) + (Int32.toInt64 103)) - 96)), (0, .int 119), (1, .int 101), (2, .int 105), (3, .int 103), (4, .int 104)]) dX12_spelt_47 (by decide) rfl ?_
  refine x_iload dX12_spelt_49 5 rfl ?_
  refine x_if_le (tgt := 71) dX12_spelt_51 (by decide) (fun c_51 => absurd c_51 (by decide)) (fun c_51 => ?_)
  refine x_ldc2 (v := 27) dX12_spelt_54 kX12_105 ?_
  refine x_lload dX12_spelt_57 0 rfl ?_
  refine x_lmul dX12_spelt_59 ?_
  refine x_iload dX12_spelt_60 5 rfl ?_
  refine x_i2l dX12_spelt_62 ?_
  refine x_ladd dX12_spelt_63 ?_
  refine x_ldc2 (v := 96) dX12_spelt_64 kX12_107 ?_
  refine x_lsub dX12_spelt_67 ?_
  refine x_goto (tgt := 73) dX12_spelt_68 (by decide) ?_
  exact x_lret dX12_spelt_73 rfl (congrArg (fun z => (some (Value.long z), h)) (by decide))

set_option maxRecDepth 100000 in
set_option maxHeartbeats 4000000 in
theorem c_weighs {G : GT} {h : List PE} : CT G mX12_weighs 1 26 [] h (fun o => o = (some (.long (lN (k27 7))), h)) := by
  show X (NF G) G mX12_weighs 1 26 0 [] [] h _
  refine x_ldc2 (v := 27) dX12_weighs_0 kX12_105 ?_
  refine x_bipush (v := 119) dX12_weighs_3 (by decide) ?_
  refine x_bipush (v := 101) dX12_weighs_5 (by decide) ?_
  refine x_bipush (v := 105) dX12_weighs_7 (by decide) ?_
  refine x_bipush (v := 103) dX12_weighs_9 (by decide) ?_
  refine x_bipush (v := 104) dX12_weighs_11 (by decide) ?_
  refine x_callS (rf' := 0) (rl' := 0) [.int 119, .int 101, .int 105, .int 103, .int 104] [.long 27] dX12_weighs_13 vX12_109 Y_X12_spelt rfl rfl (Nat.le_of_ble_eq_true rfl) (Nat.le_of_ble_eq_true rfl) (by decide) (by decide) c_spelt99 (fun _ _ e101 => ?_)
  cases e101
  refine x_lmul dX12_weighs_16 ?_
  refine x_ldc2 (v := 19) dX12_weighs_17 kX12_117 ?_
  refine x_ladd dX12_weighs_20 ?_
  exact x_lret dX12_weighs_21 rfl (congrArg (fun z => (some (Value.long z), h)) (by decide))

set_option maxRecDepth 100000 in
set_option maxHeartbeats 4000000 in
theorem c_isKey {G : GT} {h : List PE} {tn : Nat} {tv : Nat → Nat} {mtp : Nat → Int32} {flt plc tld too frm knd num sgn : Int32} {wrd : Int64} {x : Nat → Int32} {i n : Nat} (hn : n < 17) (htn : tn ≤ 640) (hv : ∀ j, j < tn → tv j < 256) (hmt : ∀ j, j < tn → mtp j = nI (tv j)) (tk : TkM tn tv i too frm knd num sgn wrd) (f36 : h[36]? = some (cO 12 (MO ((x 0)) ((x 1)) ((x 2)) ((x 3)) ((nI tn)) too frm knd num sgn flt plc wrd tld ((x 4)) ((x 5)) ((x 6)) ((x 7)) ((x 8)) ((x 9)) ((x 10)) ((x 11))))) (f37 : h[37]? = some (cI 640 mtp)) : CT G mX12_isKey 0 0 [.ref 36, .long (lN (k27 n))] h (fun o => o = (some (.int (if kd tn tv i = n then 1 else 0)), h)) := by
  show X (NF G) G mX12_isKey 0 0 0 [(0, .ref 36), (1, .long (lN (k27 n)))] [] h _
  refine x_aload_n dX12_isKey_0 0 rfl ?_
  refine x_get (v := .int knd) dX12_isKey_1 fX12_81 f36 (by decide) rfl ?_
  refine x_iconst (v := 2) dX12_isKey_4 (by decide) ?_
  refine x_icmp_ne (tgt := 21) dX12_isKey_5 (by decide) (fun c_5 => ?_) (fun c_5 => ?_)
  · refine x_iconst (v := 0) dX12_isKey_21 (by decide) ?_
    exact x_zret dX12_isKey_22 rfl rfl (by rw [if_neg (fun z => c_5 ((tk.word hn).mpr z).1)])
  · refine x_aload_n dX12_isKey_8 0 rfl ?_
    refine x_get (v := .long wrd) dX12_isKey_9 fX12_94 f36 (by decide) rfl ?_
    refine x_lload_n dX12_isKey_12 1 rfl ?_
    refine x_lif_ne (tgt := 21) dX12_isKey_13 dX12_isKey_14 (by decide) (fun c_14 => ?_) (fun c_14 => ?_)
    · refine x_iconst (v := 0) dX12_isKey_21 (by decide) ?_
      exact x_zret dX12_isKey_22 rfl rfl (by rw [if_neg (fun z => c_14 ((tk.word hn).mpr z).2)])
    · refine x_iconst (v := 1) dX12_isKey_17 (by decide) ?_
      refine x_goto (tgt := 22) dX12_isKey_18 (by decide) ?_
      exact x_zret dX12_isKey_22 rfl rfl (by rw [if_pos ((tk.word hn).mp ⟨c_5, c_14⟩)])

set_option maxRecDepth 100000 in
set_option maxHeartbeats 4000000 in
theorem c_isFoam {G : GT} {h : List PE} {tn : Nat} {tv : Nat → Nat} {mtp : Nat → Int32} {flt plc tld too frm knd num sgn : Int32} {wrd : Int64} {x : Nat → Int32} {i : Nat} (htn : tn ≤ 640) (hv : ∀ j, j < tn → tv j < 256) (hmt : ∀ j, j < tn → mtp j = nI (tv j)) (tk : TkM tn tv i too frm knd num sgn wrd) (f36 : h[36]? = some (cO 12 (MO ((x 0)) ((x 1)) ((x 2)) ((x 3)) ((nI tn)) too frm knd num sgn flt plc wrd tld ((x 4)) ((x 5)) ((x 6)) ((x 7)) ((x 8)) ((x 9)) ((x 10)) ((x 11))))) (f37 : h[37]? = some (cI 640 mtp)) : CT G mX12_isFoam 1 26 [.ref 36] h (fun o => o = (some (.int (if kd tn tv i = 0 then 1 else 0)), h)) := by
  show X (NF G) G mX12_isFoam 1 26 0 [(0, .ref 36)] [] h _
  refine x_aload_n dX12_isFoam_0 0 rfl ?_
  refine x_bipush (v := 102) dX12_isFoam_1 (by decide) ?_
  refine x_bipush (v := 111) dX12_isFoam_3 (by decide) ?_
  refine x_bipush (v := 97) dX12_isFoam_5 (by decide) ?_
  refine x_bipush (v := 109) dX12_isFoam_7 (by decide) ?_
  refine x_iconst (v := 0) dX12_isFoam_9 (by decide) ?_
  refine x_callS (rf' := 0) (rl' := 0) [.int 102, .int 111, .int 97, .int 109, .int 0] [.ref 36] dX12_isFoam_10 vX12_109 Y_X12_spelt rfl rfl (Nat.le_of_ble_eq_true rfl) (Nat.le_of_ble_eq_true rfl) (by decide) (by decide) c_spelt0 (fun _ _ e101 => ?_)
  cases e101
  refine x_callV (rf' := 0) (rl' := 0) [.long (lN (k27 0))] [] dX12_isFoam_13 vX12_113 Y_X12_isKey f36 (by decide) rfl rfl (Nat.le_of_ble_eq_true rfl) (Nat.le_of_ble_eq_true rfl) (by decide) (by decide) (c_isKey (n := 0) (by decide) htn hv hmt tk f36 f37) (fun _ _ e102 => ?_)
  cases e102
  exact x_zret dX12_isFoam_16 rfl (by split <;> rfl) rfl

set_option maxRecDepth 100000 in
set_option maxHeartbeats 4000000 in
theorem c_isThing {G : GT} {h : List PE} {tn : Nat} {tv : Nat → Nat} {mtp : Nat → Int32} {flt plc tld too frm knd num sgn : Int32} {wrd : Int64} {x : Nat → Int32} {i : Nat} (htn : tn ≤ 640) (hv : ∀ j, j < tn → tv j < 256) (hmt : ∀ j, j < tn → mtp j = nI (tv j)) (tk : TkM tn tv i too frm knd num sgn wrd) (f36 : h[36]? = some (cO 12 (MO ((x 0)) ((x 1)) ((x 2)) ((x 3)) ((nI tn)) too frm knd num sgn flt plc wrd tld ((x 4)) ((x 5)) ((x 6)) ((x 7)) ((x 8)) ((x 9)) ((x 10)) ((x 11))))) (f37 : h[37]? = some (cI 640 mtp)) : CT G mX12_isThing 1 26 [.ref 36] h (fun o => o = (some (.int (if kd tn tv i = 1 then 1 else 0)), h)) := by
  show X (NF G) G mX12_isThing 1 26 0 [(0, .ref 36)] [] h _
  refine x_aload_n dX12_isThing_0 0 rfl ?_
  refine x_bipush (v := 116) dX12_isThing_1 (by decide) ?_
  refine x_bipush (v := 104) dX12_isThing_3 (by decide) ?_
  refine x_bipush (v := 105) dX12_isThing_5 (by decide) ?_
  refine x_bipush (v := 110) dX12_isThing_7 (by decide) ?_
  refine x_bipush (v := 103) dX12_isThing_9 (by decide) ?_
  refine x_callS (rf' := 0) (rl' := 0) [.int 116, .int 104, .int 105, .int 110, .int 103] [.ref 36] dX12_isThing_11 vX12_109 Y_X12_spelt rfl rfl (Nat.le_of_ble_eq_true rfl) (Nat.le_of_ble_eq_true rfl) (by decide) (by decide) c_spelt1 (fun _ _ e101 => ?_)
  cases e101
  refine x_callV (rf' := 0) (rl' := 0) [.long (lN (k27 1))] [] dX12_isThing_14 vX12_113 Y_X12_isKey f36 (by decide) rfl rfl (Nat.le_of_ble_eq_true rfl) (Nat.le_of_ble_eq_true rfl) (by decide) (by decide) (c_isKey (n := 1) (by decide) htn hv hmt tk f36 f37) (fun _ _ e102 => ?_)
  cases e102
  exact x_zret dX12_isThing_17 rfl (by split <;> rfl) rfl

set_option maxRecDepth 100000 in
set_option maxHeartbeats 4000000 in
theorem c_isBox {G : GT} {h : List PE} {tn : Nat} {tv : Nat → Nat} {mtp : Nat → Int32} {flt plc tld too frm knd num sgn : Int32} {wrd : Int64} {x : Nat → Int32} {i : Nat} (htn : tn ≤ 640) (hv : ∀ j, j < tn → tv j < 256) (hmt : ∀ j, j < tn → mtp j = nI (tv j)) (tk : TkM tn tv i too frm knd num sgn wrd) (f36 : h[36]? = some (cO 12 (MO ((x 0)) ((x 1)) ((x 2)) ((x 3)) ((nI tn)) too frm knd num sgn flt plc wrd tld ((x 4)) ((x 5)) ((x 6)) ((x 7)) ((x 8)) ((x 9)) ((x 10)) ((x 11))))) (f37 : h[37]? = some (cI 640 mtp)) : CT G mX12_isBox 1 26 [.ref 36] h (fun o => o = (some (.int (if kd tn tv i = 2 then 1 else 0)), h)) := by
  show X (NF G) G mX12_isBox 1 26 0 [(0, .ref 36)] [] h _
  refine x_aload_n dX12_isBox_0 0 rfl ?_
  refine x_bipush (v := 98) dX12_isBox_1 (by decide) ?_
  refine x_bipush (v := 111) dX12_isBox_3 (by decide) ?_
  refine x_bipush (v := 120) dX12_isBox_5 (by decide) ?_
  refine x_iconst (v := 0) dX12_isBox_7 (by decide) ?_
  refine x_iconst (v := 0) dX12_isBox_8 (by decide) ?_
  refine x_callS (rf' := 0) (rl' := 0) [.int 98, .int 111, .int 120, .int 0, .int 0] [.ref 36] dX12_isBox_9 vX12_109 Y_X12_spelt rfl rfl (Nat.le_of_ble_eq_true rfl) (Nat.le_of_ble_eq_true rfl) (by decide) (by decide) c_spelt2 (fun _ _ e101 => ?_)
  cases e101
  refine x_callV (rf' := 0) (rl' := 0) [.long (lN (k27 2))] [] dX12_isBox_12 vX12_113 Y_X12_isKey f36 (by decide) rfl rfl (Nat.le_of_ble_eq_true rfl) (Nat.le_of_ble_eq_true rfl) (by decide) (by decide) (c_isKey (n := 2) (by decide) htn hv hmt tk f36 f37) (fun _ _ e102 => ?_)
  cases e102
  exact x_zret dX12_isBox_15 rfl (by split <;> rfl) rfl

set_option maxRecDepth 100000 in
set_option maxHeartbeats 4000000 in
theorem c_isPad {G : GT} {h : List PE} {tn : Nat} {tv : Nat → Nat} {mtp : Nat → Int32} {flt plc tld too frm knd num sgn : Int32} {wrd : Int64} {x : Nat → Int32} {i : Nat} (htn : tn ≤ 640) (hv : ∀ j, j < tn → tv j < 256) (hmt : ∀ j, j < tn → mtp j = nI (tv j)) (tk : TkM tn tv i too frm knd num sgn wrd) (f36 : h[36]? = some (cO 12 (MO ((x 0)) ((x 1)) ((x 2)) ((x 3)) ((nI tn)) too frm knd num sgn flt plc wrd tld ((x 4)) ((x 5)) ((x 6)) ((x 7)) ((x 8)) ((x 9)) ((x 10)) ((x 11))))) (f37 : h[37]? = some (cI 640 mtp)) : CT G mX12_isPad 1 26 [.ref 36] h (fun o => o = (some (.int (if kd tn tv i = 3 then 1 else 0)), h)) := by
  show X (NF G) G mX12_isPad 1 26 0 [(0, .ref 36)] [] h _
  refine x_aload_n dX12_isPad_0 0 rfl ?_
  refine x_bipush (v := 112) dX12_isPad_1 (by decide) ?_
  refine x_bipush (v := 97) dX12_isPad_3 (by decide) ?_
  refine x_bipush (v := 100) dX12_isPad_5 (by decide) ?_
  refine x_iconst (v := 0) dX12_isPad_7 (by decide) ?_
  refine x_iconst (v := 0) dX12_isPad_8 (by decide) ?_
  refine x_callS (rf' := 0) (rl' := 0) [.int 112, .int 97, .int 100, .int 0, .int 0] [.ref 36] dX12_isPad_9 vX12_109 Y_X12_spelt rfl rfl (Nat.le_of_ble_eq_true rfl) (Nat.le_of_ble_eq_true rfl) (by decide) (by decide) c_spelt3 (fun _ _ e101 => ?_)
  cases e101
  refine x_callV (rf' := 0) (rl' := 0) [.long (lN (k27 3))] [] dX12_isPad_12 vX12_113 Y_X12_isKey f36 (by decide) rfl rfl (Nat.le_of_ble_eq_true rfl) (Nat.le_of_ble_eq_true rfl) (by decide) (by decide) (c_isKey (n := 3) (by decide) htn hv hmt tk f36 f37) (fun _ _ e102 => ?_)
  cases e102
  exact x_zret dX12_isPad_15 rfl (by split <;> rfl) rfl

set_option maxRecDepth 100000 in
set_option maxHeartbeats 4000000 in
theorem c_isDrop {G : GT} {h : List PE} {tn : Nat} {tv : Nat → Nat} {mtp : Nat → Int32} {flt plc tld too frm knd num sgn : Int32} {wrd : Int64} {x : Nat → Int32} {i : Nat} (htn : tn ≤ 640) (hv : ∀ j, j < tn → tv j < 256) (hmt : ∀ j, j < tn → mtp j = nI (tv j)) (tk : TkM tn tv i too frm knd num sgn wrd) (f36 : h[36]? = some (cO 12 (MO ((x 0)) ((x 1)) ((x 2)) ((x 3)) ((nI tn)) too frm knd num sgn flt plc wrd tld ((x 4)) ((x 5)) ((x 6)) ((x 7)) ((x 8)) ((x 9)) ((x 10)) ((x 11))))) (f37 : h[37]? = some (cI 640 mtp)) : CT G mX12_isDrop 1 26 [.ref 36] h (fun o => o = (some (.int (if kd tn tv i = 4 then 1 else 0)), h)) := by
  show X (NF G) G mX12_isDrop 1 26 0 [(0, .ref 36)] [] h _
  refine x_aload_n dX12_isDrop_0 0 rfl ?_
  refine x_bipush (v := 100) dX12_isDrop_1 (by decide) ?_
  refine x_bipush (v := 114) dX12_isDrop_3 (by decide) ?_
  refine x_bipush (v := 111) dX12_isDrop_5 (by decide) ?_
  refine x_bipush (v := 112) dX12_isDrop_7 (by decide) ?_
  refine x_iconst (v := 0) dX12_isDrop_9 (by decide) ?_
  refine x_callS (rf' := 0) (rl' := 0) [.int 100, .int 114, .int 111, .int 112, .int 0] [.ref 36] dX12_isDrop_10 vX12_109 Y_X12_spelt rfl rfl (Nat.le_of_ble_eq_true rfl) (Nat.le_of_ble_eq_true rfl) (by decide) (by decide) c_spelt4 (fun _ _ e101 => ?_)
  cases e101
  refine x_callV (rf' := 0) (rl' := 0) [.long (lN (k27 4))] [] dX12_isDrop_13 vX12_113 Y_X12_isKey f36 (by decide) rfl rfl (Nat.le_of_ble_eq_true rfl) (Nat.le_of_ble_eq_true rfl) (by decide) (by decide) (c_isKey (n := 4) (by decide) htn hv hmt tk f36 f37) (fun _ _ e102 => ?_)
  cases e102
  exact x_zret dX12_isDrop_16 rfl (by split <;> rfl) rfl

set_option maxRecDepth 100000 in
set_option maxHeartbeats 4000000 in
theorem c_isSign19 {G : GT} {h : List PE} {tn : Nat} {tv : Nat → Nat} {mtp : Nat → Int32} {flt plc tld too frm knd num sgn : Int32} {wrd : Int64} {x : Nat → Int32} {i : Nat} (htn : tn ≤ 640) (hv : ∀ j, j < tn → tv j < 256) (hmt : ∀ j, j < tn → mtp j = nI (tv j)) (tk : TkM tn tv i too frm knd num sgn wrd) (f36 : h[36]? = some (cO 12 (MO ((x 0)) ((x 1)) ((x 2)) ((x 3)) ((nI tn)) too frm knd num sgn flt plc wrd tld ((x 4)) ((x 5)) ((x 6)) ((x 7)) ((x 8)) ((x 9)) ((x 10)) ((x 11))))) (f37 : h[37]? = some (cI 640 mtp)) : CT G mX12_isSign 0 0 [.ref 36, .int 59] h (fun o => o = (some (.int (if kd tn tv i = 19 then 1 else 0)), h)) := by
  show X (NF G) G mX12_isSign 0 0 0 [(0, .ref 36), (1, .int 59)] [] h _
  refine x_aload_n dX12_isSign_0 0 rfl ?_
  refine x_get (v := .int knd) dX12_isSign_1 fX12_81 f36 (by decide) rfl ?_
  refine x_iconst (v := 4) dX12_isSign_4 (by decide) ?_
  refine x_icmp_ne (tgt := 20) dX12_isSign_5 (by decide) (fun c_5 => ?_) (fun c_5 => ?_)
  · refine x_iconst (v := 0) dX12_isSign_20 (by decide) ?_
    exact x_zret dX12_isSign_21 rfl rfl (by rw [if_neg (fun z => c_5 (tk.2.2.2.2.2.1 z).1)])
  · refine x_aload_n dX12_isSign_8 0 rfl ?_
    refine x_get (v := .int sgn) dX12_isSign_9 fX12_91 f36 (by decide) rfl ?_
    refine x_iload_n dX12_isSign_12 1 rfl ?_
    refine x_icmp_ne (tgt := 20) dX12_isSign_13 (by decide) (fun c_13 => ?_) (fun c_13 => ?_)
    · refine x_iconst (v := 0) dX12_isSign_20 (by decide) ?_
      exact x_zret dX12_isSign_21 rfl rfl (by rw [if_neg (fun z => c_13 (tk.2.2.2.2.2.1 z).2)])
    · refine x_iconst (v := 1) dX12_isSign_16 (by decide) ?_
      refine x_goto (tgt := 21) dX12_isSign_17 (by decide) ?_
      exact x_zret dX12_isSign_21 rfl rfl (by rw [if_pos ((tk.k4.mp c_5).elim (fun z => z) (fun z => absurd ((tk.2.2.2.2.2.2.1 z).2.symm.trans c_13) (by decide)))])

set_option maxRecDepth 100000 in
set_option maxHeartbeats 4000000 in
theorem c_isSign20 {G : GT} {h : List PE} {tn : Nat} {tv : Nat → Nat} {mtp : Nat → Int32} {flt plc tld too frm knd num sgn : Int32} {wrd : Int64} {x : Nat → Int32} {i : Nat} (htn : tn ≤ 640) (hv : ∀ j, j < tn → tv j < 256) (hmt : ∀ j, j < tn → mtp j = nI (tv j)) (tk : TkM tn tv i too frm knd num sgn wrd) (f36 : h[36]? = some (cO 12 (MO ((x 0)) ((x 1)) ((x 2)) ((x 3)) ((nI tn)) too frm knd num sgn flt plc wrd tld ((x 4)) ((x 5)) ((x 6)) ((x 7)) ((x 8)) ((x 9)) ((x 10)) ((x 11))))) (f37 : h[37]? = some (cI 640 mtp)) : CT G mX12_isSign 0 0 [.ref 36, .int 58] h (fun o => o = (some (.int (if kd tn tv i = 20 then 1 else 0)), h)) := by
  show X (NF G) G mX12_isSign 0 0 0 [(0, .ref 36), (1, .int 58)] [] h _
  refine x_aload_n dX12_isSign_0 0 rfl ?_
  refine x_get (v := .int knd) dX12_isSign_1 fX12_81 f36 (by decide) rfl ?_
  refine x_iconst (v := 4) dX12_isSign_4 (by decide) ?_
  refine x_icmp_ne (tgt := 20) dX12_isSign_5 (by decide) (fun c_5 => ?_) (fun c_5 => ?_)
  · refine x_iconst (v := 0) dX12_isSign_20 (by decide) ?_
    exact x_zret dX12_isSign_21 rfl rfl (by rw [if_neg (fun z => c_5 (tk.2.2.2.2.2.2.1 z).1)])
  · refine x_aload_n dX12_isSign_8 0 rfl ?_
    refine x_get (v := .int sgn) dX12_isSign_9 fX12_91 f36 (by decide) rfl ?_
    refine x_iload_n dX12_isSign_12 1 rfl ?_
    refine x_icmp_ne (tgt := 20) dX12_isSign_13 (by decide) (fun c_13 => ?_) (fun c_13 => ?_)
    · refine x_iconst (v := 0) dX12_isSign_20 (by decide) ?_
      exact x_zret dX12_isSign_21 rfl rfl (by rw [if_neg (fun z => c_13 (tk.2.2.2.2.2.2.1 z).2)])
    · refine x_iconst (v := 1) dX12_isSign_16 (by decide) ?_
      refine x_goto (tgt := 21) dX12_isSign_17 (by decide) ?_
      exact x_zret dX12_isSign_21 rfl rfl (by rw [if_pos ((tk.k4.mp c_5).elim (fun z => absurd ((tk.2.2.2.2.2.1 z).2.symm.trans c_13) (by decide)) (fun z => z))])

set_option maxRecDepth 100000 in
set_option maxHeartbeats 4000000 in
theorem c_isTaken {G : GT} {h : List PE} {tn : Nat} {tv : Nat → Nat} {mtp : Nat → Int32} {flt plc tld too frm knd num sgn : Int32} {wrd : Int64} {x : Nat → Int32} {i : Nat} (htn : tn ≤ 640) (hv : ∀ j, j < tn → tv j < 256) (hmt : ∀ j, j < tn → mtp j = nI (tv j)) (tk : TkM tn tv i too frm knd num sgn wrd) (hw : kd tn tv i ≤ 17) (f36 : h[36]? = some (cO 12 (MO ((x 0)) ((x 1)) ((x 2)) ((x 3)) ((nI tn)) too frm knd num sgn flt plc wrd tld ((x 4)) ((x 5)) ((x 6)) ((x 7)) ((x 8)) ((x 9)) ((x 10)) ((x 11))))) (f37 : h[37]? = some (cI 640 mtp)) : CT G mX12_isTaken 2 46 [.ref 36] h (fun o => o = (some (.int (if kd tn tv i = 17 then 0 else 1)), h)) := by
  show X (NF G) G mX12_isTaken 2 46 0 [(0, .ref 36)] [] h _
  refine x_aload_n dX12_isTaken_0 0 rfl ?_
  refine x_callV (rf' := 1) (rl' := 26) [] [] dX12_isTaken_1 vX12_119 Y_X12_isFoam f36 (by decide) rfl rfl (Nat.le_of_ble_eq_true rfl) (Nat.le_of_ble_eq_true rfl) (by decide) (by decide) (c_isFoam htn hv hmt tk f36 f37) (fun _ _ e101 => ?_)
  cases e101
  by_cases k102 : kd tn tv i = 0
  · rw [if_pos k102]
    refine x_if_ne (tgt := 45) dX12_isTaken_4 (by decide) (fun c_4 => ?_) (fun c_4 => absurd c_4 (by decide))
    refine x_iconst (v := 1) dX12_isTaken_45 (by decide) ?_
    exact x_zret dX12_isTaken_46 rfl rfl (by rw [if_neg (by omega)])
  · rw [if_neg k102]
    refine x_if_ne (tgt := 45) dX12_isTaken_4 (by decide) (fun c_4 => absurd (by decide) c_4) (fun c_4 => ?_)
    refine x_aload_n dX12_isTaken_7 0 rfl ?_
    refine x_callV (rf' := 1) (rl' := 26) [] [] dX12_isTaken_8 vX12_123 Y_X12_isThing f36 (by decide) rfl rfl (Nat.le_of_ble_eq_true rfl) (Nat.le_of_ble_eq_true rfl) (by decide) (by decide) (c_isThing htn hv hmt tk f36 f37) (fun _ _ e103 => ?_)
    cases e103
    by_cases k104 : kd tn tv i = 1
    · rw [if_pos k104]
      refine x_if_ne (tgt := 45) dX12_isTaken_11 (by decide) (fun c_11 => ?_) (fun c_11 => absurd c_11 (by decide))
      refine x_iconst (v := 1) dX12_isTaken_45 (by decide) ?_
      exact x_zret dX12_isTaken_46 rfl rfl (by rw [if_neg (by omega)])
    · rw [if_neg k104]
      refine x_if_ne (tgt := 45) dX12_isTaken_11 (by decide) (fun c_11 => absurd (by decide) c_11) (fun c_11 => ?_)
      refine x_aload_n dX12_isTaken_14 0 rfl ?_
      refine x_callV (rf' := 1) (rl' := 26) [] [] dX12_isTaken_15 vX12_126 Y_X12_isBox f36 (by decide) rfl rfl (Nat.le_of_ble_eq_true rfl) (Nat.le_of_ble_eq_true rfl) (by decide) (by decide) (c_isBox htn hv hmt tk f36 f37) (fun _ _ e105 => ?_)
      cases e105
      by_cases k106 : kd tn tv i = 2
      · rw [if_pos k106]
        refine x_if_ne (tgt := 45) dX12_isTaken_18 (by decide) (fun c_18 => ?_) (fun c_18 => absurd c_18 (by decide))
        refine x_iconst (v := 1) dX12_isTaken_45 (by decide) ?_
        exact x_zret dX12_isTaken_46 rfl rfl (by rw [if_neg (by omega)])
      · rw [if_neg k106]
        refine x_if_ne (tgt := 45) dX12_isTaken_18 (by decide) (fun c_18 => absurd (by decide) c_18) (fun c_18 => ?_)
        refine x_aload_n dX12_isTaken_21 0 rfl ?_
        refine x_callV (rf' := 1) (rl' := 26) [] [] dX12_isTaken_22 vX12_129 Y_X12_isPad f36 (by decide) rfl rfl (Nat.le_of_ble_eq_true rfl) (Nat.le_of_ble_eq_true rfl) (by decide) (by decide) (c_isPad htn hv hmt tk f36 f37) (fun _ _ e107 => ?_)
        cases e107
        by_cases k108 : kd tn tv i = 3
        · rw [if_pos k108]
          refine x_if_ne (tgt := 45) dX12_isTaken_25 (by decide) (fun c_25 => ?_) (fun c_25 => absurd c_25 (by decide))
          refine x_iconst (v := 1) dX12_isTaken_45 (by decide) ?_
          exact x_zret dX12_isTaken_46 rfl rfl (by rw [if_neg (by omega)])
        · rw [if_neg k108]
          refine x_if_ne (tgt := 45) dX12_isTaken_25 (by decide) (fun c_25 => absurd (by decide) c_25) (fun c_25 => ?_)
          refine x_aload_n dX12_isTaken_28 0 rfl ?_
          refine x_callV (rf' := 1) (rl' := 26) [] [] dX12_isTaken_29 vX12_132 Y_X12_isDrop f36 (by decide) rfl rfl (Nat.le_of_ble_eq_true rfl) (Nat.le_of_ble_eq_true rfl) (by decide) (by decide) (c_isDrop htn hv hmt tk f36 f37) (fun _ _ e109 => ?_)
          cases e109
          by_cases k110 : kd tn tv i = 4
          · rw [if_pos k110]
            refine x_if_ne (tgt := 45) dX12_isTaken_32 (by decide) (fun c_32 => ?_) (fun c_32 => absurd c_32 (by decide))
            refine x_iconst (v := 1) dX12_isTaken_45 (by decide) ?_
            exact x_zret dX12_isTaken_46 rfl rfl (by rw [if_neg (by omega)])
          · rw [if_neg k110]
            refine x_if_ne (tgt := 45) dX12_isTaken_32 (by decide) (fun c_32 => absurd (by decide) c_32) (fun c_32 => ?_)
            refine x_aload_n dX12_isTaken_35 0 rfl ?_
            refine x_callS (rf' := 1) (rl' := 26) [] [.ref 36] dX12_isTaken_36 vX12_135 Y_X12_weighs rfl rfl (Nat.le_of_ble_eq_true rfl) (Nat.le_of_ble_eq_true rfl) (by decide) (by decide) c_weighs (fun _ _ e111 => ?_)
            cases e111
            refine x_callV (rf' := 0) (rl' := 0) [.long (lN (k27 7))] [] dX12_isTaken_39 vX12_113 Y_X12_isKey f36 (by decide) rfl rfl (Nat.le_of_ble_eq_true rfl) (Nat.le_of_ble_eq_true rfl) (by decide) (by decide) (c_isKey (n := 7) (by decide) htn hv hmt tk f36 f37) (fun _ _ e112 => ?_)
            cases e112
            by_cases k113 : kd tn tv i = 7
            · rw [if_pos k113]
              refine x_if_eq (tgt := 47) dX12_isTaken_42 (by decide) (fun c_42 => absurd c_42 (by decide)) (fun c_42 => ?_)
              refine x_iconst (v := 1) dX12_isTaken_45 (by decide) ?_
              exact x_zret dX12_isTaken_46 rfl rfl (by rw [if_neg (by omega)])
            · rw [if_neg k113]
              refine x_if_eq (tgt := 47) dX12_isTaken_42 (by decide) (fun c_42 => ?_) (fun c_42 => absurd (by decide) c_42)
              refine x_aload_n dX12_isTaken_47 0 rfl ?_
              refine x_bipush (v := 107) dX12_isTaken_48 (by decide) ?_
              refine x_bipush (v := 101) dX12_isTaken_50 (by decide) ?_
              refine x_bipush (v := 101) dX12_isTaken_52 (by decide) ?_
              refine x_bipush (v := 112) dX12_isTaken_54 (by decide) ?_
              refine x_bipush (v := 115) dX12_isTaken_56 (by decide) ?_
              refine x_callS (rf' := 0) (rl' := 0) [.int 107, .int 101, .int 101, .int 112, .int 115] [.ref 36] dX12_isTaken_58 vX12_109 Y_X12_spelt rfl rfl (Nat.le_of_ble_eq_true rfl) (Nat.le_of_ble_eq_true rfl) (by decide) (by decide) c_spelt5 (fun _ _ e114 => ?_)
              cases e114
              refine x_callV (rf' := 0) (rl' := 0) [.long (lN (k27 5))] [] dX12_isTaken_61 vX12_113 Y_X12_isKey f36 (by decide) rfl rfl (Nat.le_of_ble_eq_true rfl) (Nat.le_of_ble_eq_true rfl) (by decide) (by decide) (c_isKey (n := 5) (by decide) htn hv hmt tk f36 f37) (fun _ _ e115 => ?_)
              cases e115
              by_cases k116 : kd tn tv i = 5
              · rw [if_pos k116]
                refine x_if_ne (tgt := 125) dX12_isTaken_64 (by decide) (fun c_64 => ?_) (fun c_64 => absurd c_64 (by decide))
                refine x_iconst (v := 1) dX12_isTaken_125 (by decide) ?_
                exact x_zret dX12_isTaken_126 rfl rfl (by rw [if_neg (by omega)])
              · rw [if_neg k116]
                refine x_if_ne (tgt := 125) dX12_isTaken_64 (by decide) (fun c_64 => absurd (by decide) c_64) (fun c_64 => ?_)
                refine x_aload_n dX12_isTaken_67 0 rfl ?_
                refine x_bipush (v := 112) dX12_isTaken_68 (by decide) ?_
                refine x_bipush (v := 114) dX12_isTaken_70 (by decide) ?_
                refine x_bipush (v := 105) dX12_isTaken_72 (by decide) ?_
                refine x_bipush (v := 99) dX12_isTaken_74 (by decide) ?_
                refine x_bipush (v := 101) dX12_isTaken_76 (by decide) ?_
                refine x_callS (rf' := 0) (rl' := 0) [.int 112, .int 114, .int 105, .int 99, .int 101] [.ref 36] dX12_isTaken_78 vX12_109 Y_X12_spelt rfl rfl (Nat.le_of_ble_eq_true rfl) (Nat.le_of_ble_eq_true rfl) (by decide) (by decide) c_spelt6 (fun _ _ e117 => ?_)
                cases e117
                refine x_callV (rf' := 0) (rl' := 0) [.long (lN (k27 6))] [] dX12_isTaken_81 vX12_113 Y_X12_isKey f36 (by decide) rfl rfl (Nat.le_of_ble_eq_true rfl) (Nat.le_of_ble_eq_true rfl) (by decide) (by decide) (c_isKey (n := 6) (by decide) htn hv hmt tk f36 f37) (fun _ _ e118 => ?_)
                cases e118
                by_cases k119 : kd tn tv i = 6
                · rw [if_pos k119]
                  refine x_if_ne (tgt := 125) dX12_isTaken_84 (by decide) (fun c_84 => ?_) (fun c_84 => absurd c_84 (by decide))
                  refine x_iconst (v := 1) dX12_isTaken_125 (by decide) ?_
                  exact x_zret dX12_isTaken_126 rfl rfl (by rw [if_neg (by omega)])
                · rw [if_neg k119]
                  refine x_if_ne (tgt := 125) dX12_isTaken_84 (by decide) (fun c_84 => absurd (by decide) c_84) (fun c_84 => ?_)
                  refine x_aload_n dX12_isTaken_87 0 rfl ?_
                  refine x_bipush (v := 115) dX12_isTaken_88 (by decide) ?_
                  refine x_bipush (v := 105) dX12_isTaken_90 (by decide) ?_
                  refine x_bipush (v := 122) dX12_isTaken_92 (by decide) ?_
                  refine x_bipush (v := 101) dX12_isTaken_94 (by decide) ?_
                  refine x_iconst (v := 0) dX12_isTaken_96 (by decide) ?_
                  refine x_callS (rf' := 0) (rl' := 0) [.int 115, .int 105, .int 122, .int 101, .int 0] [.ref 36] dX12_isTaken_97 vX12_109 Y_X12_spelt rfl rfl (Nat.le_of_ble_eq_true rfl) (Nat.le_of_ble_eq_true rfl) (by decide) (by decide) c_spelt8 (fun _ _ e120 => ?_)
                  cases e120
                  refine x_callV (rf' := 0) (rl' := 0) [.long (lN (k27 8))] [] dX12_isTaken_100 vX12_113 Y_X12_isKey f36 (by decide) rfl rfl (Nat.le_of_ble_eq_true rfl) (Nat.le_of_ble_eq_true rfl) (by decide) (by decide) (c_isKey (n := 8) (by decide) htn hv hmt tk f36 f37) (fun _ _ e121 => ?_)
                  cases e121
                  by_cases k122 : kd tn tv i = 8
                  · rw [if_pos k122]
                    refine x_if_ne (tgt := 125) dX12_isTaken_103 (by decide) (fun c_103 => ?_) (fun c_103 => absurd c_103 (by decide))
                    refine x_iconst (v := 1) dX12_isTaken_125 (by decide) ?_
                    exact x_zret dX12_isTaken_126 rfl rfl (by rw [if_neg (by omega)])
                  · rw [if_neg k122]
                    refine x_if_ne (tgt := 125) dX12_isTaken_103 (by decide) (fun c_103 => absurd (by decide) c_103) (fun c_103 => ?_)
                    refine x_aload_n dX12_isTaken_106 0 rfl ?_
                    refine x_bipush (v := 109) dX12_isTaken_107 (by decide) ?_
                    refine x_bipush (v := 97) dX12_isTaken_109 (by decide) ?_
                    refine x_bipush (v := 114) dX12_isTaken_111 (by decide) ?_
                    refine x_bipush (v := 107) dX12_isTaken_113 (by decide) ?_
                    refine x_iconst (v := 0) dX12_isTaken_115 (by decide) ?_
                    refine x_callS (rf' := 0) (rl' := 0) [.int 109, .int 97, .int 114, .int 107, .int 0] [.ref 36] dX12_isTaken_116 vX12_109 Y_X12_spelt rfl rfl (Nat.le_of_ble_eq_true rfl) (Nat.le_of_ble_eq_true rfl) (by decide) (by decide) c_spelt9 (fun _ _ e123 => ?_)
                    cases e123
                    refine x_callV (rf' := 0) (rl' := 0) [.long (lN (k27 9))] [] dX12_isTaken_119 vX12_113 Y_X12_isKey f36 (by decide) rfl rfl (Nat.le_of_ble_eq_true rfl) (Nat.le_of_ble_eq_true rfl) (by decide) (by decide) (c_isKey (n := 9) (by decide) htn hv hmt tk f36 f37) (fun _ _ e124 => ?_)
                    cases e124
                    by_cases k125 : kd tn tv i = 9
                    · rw [if_pos k125]
                      refine x_if_eq (tgt := 127) dX12_isTaken_122 (by decide) (fun c_122 => absurd c_122 (by decide)) (fun c_122 => ?_)
                      refine x_iconst (v := 1) dX12_isTaken_125 (by decide) ?_
                      exact x_zret dX12_isTaken_126 rfl rfl (by rw [if_neg (by omega)])
                    · rw [if_neg k125]
                      refine x_if_eq (tgt := 127) dX12_isTaken_122 (by decide) (fun c_122 => ?_) (fun c_122 => absurd (by decide) c_122)
                      refine x_aload_n dX12_isTaken_127 0 rfl ?_
                      refine x_bipush (v := 114) dX12_isTaken_128 (by decide) ?_
                      refine x_bipush (v := 111) dX12_isTaken_130 (by decide) ?_
                      refine x_bipush (v := 111) dX12_isTaken_132 (by decide) ?_
                      refine x_bipush (v := 109) dX12_isTaken_134 (by decide) ?_
                      refine x_iconst (v := 0) dX12_isTaken_136 (by decide) ?_
                      refine x_callS (rf' := 0) (rl' := 0) [.int 114, .int 111, .int 111, .int 109, .int 0] [.ref 36] dX12_isTaken_137 vX12_109 Y_X12_spelt rfl rfl (Nat.le_of_ble_eq_true rfl) (Nat.le_of_ble_eq_true rfl) (by decide) (by decide) c_spelt10 (fun _ _ e126 => ?_)
                      cases e126
                      refine x_callV (rf' := 0) (rl' := 0) [.long (lN (k27 10))] [] dX12_isTaken_140 vX12_113 Y_X12_isKey f36 (by decide) rfl rfl (Nat.le_of_ble_eq_true rfl) (Nat.le_of_ble_eq_true rfl) (by decide) (by decide) (c_isKey (n := 10) (by decide) htn hv hmt tk f36 f37) (fun _ _ e127 => ?_)
                      cases e127
                      by_cases k128 : kd tn tv i = 10
                      · rw [if_pos k128]
                        refine x_if_ne (tgt := 205) dX12_isTaken_143 (by decide) (fun c_143 => ?_) (fun c_143 => absurd c_143 (by decide))
                        refine x_iconst (v := 1) dX12_isTaken_205 (by decide) ?_
                        exact x_zret dX12_isTaken_206 rfl rfl (by rw [if_neg (by omega)])
                      · rw [if_neg k128]
                        refine x_if_ne (tgt := 205) dX12_isTaken_143 (by decide) (fun c_143 => absurd (by decide) c_143) (fun c_143 => ?_)
                        refine x_aload_n dX12_isTaken_146 0 rfl ?_
                        refine x_bipush (v := 98) dX12_isTaken_147 (by decide) ?_
                        refine x_bipush (v := 101) dX12_isTaken_149 (by decide) ?_
                        refine x_bipush (v := 97) dX12_isTaken_151 (by decide) ?_
                        refine x_bipush (v := 114) dX12_isTaken_153 (by decide) ?_
                        refine x_bipush (v := 115) dX12_isTaken_155 (by decide) ?_
                        refine x_callS (rf' := 0) (rl' := 0) [.int 98, .int 101, .int 97, .int 114, .int 115] [.ref 36] dX12_isTaken_157 vX12_109 Y_X12_spelt rfl rfl (Nat.le_of_ble_eq_true rfl) (Nat.le_of_ble_eq_true rfl) (by decide) (by decide) c_spelt11 (fun _ _ e129 => ?_)
                        cases e129
                        refine x_callV (rf' := 0) (rl' := 0) [.long (lN (k27 11))] [] dX12_isTaken_160 vX12_113 Y_X12_isKey f36 (by decide) rfl rfl (Nat.le_of_ble_eq_true rfl) (Nat.le_of_ble_eq_true rfl) (by decide) (by decide) (c_isKey (n := 11) (by decide) htn hv hmt tk f36 f37) (fun _ _ e130 => ?_)
                        cases e130
                        by_cases k131 : kd tn tv i = 11
                        · rw [if_pos k131]
                          refine x_if_ne (tgt := 205) dX12_isTaken_163 (by decide) (fun c_163 => ?_) (fun c_163 => absurd c_163 (by decide))
                          refine x_iconst (v := 1) dX12_isTaken_205 (by decide) ?_
                          exact x_zret dX12_isTaken_206 rfl rfl (by rw [if_neg (by omega)])
                        · rw [if_neg k131]
                          refine x_if_ne (tgt := 205) dX12_isTaken_163 (by decide) (fun c_163 => absurd (by decide) c_163) (fun c_163 => ?_)
                          refine x_aload_n dX12_isTaken_166 0 rfl ?_
                          refine x_bipush (v := 115) dX12_isTaken_167 (by decide) ?_
                          refine x_bipush (v := 105) dX12_isTaken_169 (by decide) ?_
                          refine x_bipush (v := 100) dX12_isTaken_171 (by decide) ?_
                          refine x_bipush (v := 101) dX12_isTaken_173 (by decide) ?_
                          refine x_iconst (v := 0) dX12_isTaken_175 (by decide) ?_
                          refine x_callS (rf' := 0) (rl' := 0) [.int 115, .int 105, .int 100, .int 101, .int 0] [.ref 36] dX12_isTaken_176 vX12_109 Y_X12_spelt rfl rfl (Nat.le_of_ble_eq_true rfl) (Nat.le_of_ble_eq_true rfl) (by decide) (by decide) c_spelt12 (fun _ _ e132 => ?_)
                          cases e132
                          refine x_callV (rf' := 0) (rl' := 0) [.long (lN (k27 12))] [] dX12_isTaken_179 vX12_113 Y_X12_isKey f36 (by decide) rfl rfl (Nat.le_of_ble_eq_true rfl) (Nat.le_of_ble_eq_true rfl) (by decide) (by decide) (c_isKey (n := 12) (by decide) htn hv hmt tk f36 f37) (fun _ _ e133 => ?_)
                          cases e133
                          by_cases k134 : kd tn tv i = 12
                          · rw [if_pos k134]
                            refine x_if_ne (tgt := 205) dX12_isTaken_182 (by decide) (fun c_182 => ?_) (fun c_182 => absurd c_182 (by decide))
                            refine x_iconst (v := 1) dX12_isTaken_205 (by decide) ?_
                            exact x_zret dX12_isTaken_206 rfl rfl (by rw [if_neg (by omega)])
                          · rw [if_neg k134]
                            refine x_if_ne (tgt := 205) dX12_isTaken_182 (by decide) (fun c_182 => absurd (by decide) c_182) (fun c_182 => ?_)
                            refine x_aload_n dX12_isTaken_185 0 rfl ?_
                            refine x_bipush (v := 116) dX12_isTaken_186 (by decide) ?_
                            refine x_bipush (v := 104) dX12_isTaken_188 (by decide) ?_
                            refine x_bipush (v := 105) dX12_isTaken_190 (by decide) ?_
                            refine x_bipush (v := 99) dX12_isTaken_192 (by decide) ?_
                            refine x_bipush (v := 107) dX12_isTaken_194 (by decide) ?_
                            refine x_callS (rf' := 0) (rl' := 0) [.int 116, .int 104, .int 105, .int 99, .int 107] [.ref 36] dX12_isTaken_196 vX12_109 Y_X12_spelt rfl rfl (Nat.le_of_ble_eq_true rfl) (Nat.le_of_ble_eq_true rfl) (by decide) (by decide) c_spelt13 (fun _ _ e135 => ?_)
                            cases e135
                            refine x_callV (rf' := 0) (rl' := 0) [.long (lN (k27 13))] [] dX12_isTaken_199 vX12_113 Y_X12_isKey f36 (by decide) rfl rfl (Nat.le_of_ble_eq_true rfl) (Nat.le_of_ble_eq_true rfl) (by decide) (by decide) (c_isKey (n := 13) (by decide) htn hv hmt tk f36 f37) (fun _ _ e136 => ?_)
                            cases e136
                            by_cases k137 : kd tn tv i = 13
                            · rw [if_pos k137]
                              refine x_if_eq (tgt := 207) dX12_isTaken_202 (by decide) (fun c_202 => absurd c_202 (by decide)) (fun c_202 => ?_)
                              refine x_iconst (v := 1) dX12_isTaken_205 (by decide) ?_
                              exact x_zret dX12_isTaken_206 rfl rfl (by rw [if_neg (by omega)])
                            · rw [if_neg k137]
                              refine x_if_eq (tgt := 207) dX12_isTaken_202 (by decide) (fun c_202 => ?_) (fun c_202 => absurd (by decide) c_202)
                              refine x_aload_n dX12_isTaken_207 0 rfl ?_
                              refine x_bipush (v := 97) dX12_isTaken_208 (by decide) ?_
                              refine x_bipush (v := 114) dX12_isTaken_210 (by decide) ?_
                              refine x_bipush (v := 101) dX12_isTaken_212 (by decide) ?_
                              refine x_bipush (v := 97) dX12_isTaken_214 (by decide) ?_
                              refine x_iconst (v := 0) dX12_isTaken_216 (by decide) ?_
                              refine x_callS (rf' := 0) (rl' := 0) [.int 97, .int 114, .int 101, .int 97, .int 0] [.ref 36] dX12_isTaken_217 vX12_109 Y_X12_spelt rfl rfl (Nat.le_of_ble_eq_true rfl) (Nat.le_of_ble_eq_true rfl) (by decide) (by decide) c_spelt14 (fun _ _ e138 => ?_)
                              cases e138
                              refine x_callV (rf' := 0) (rl' := 0) [.long (lN (k27 14))] [] dX12_isTaken_220 vX12_113 Y_X12_isKey f36 (by decide) rfl rfl (Nat.le_of_ble_eq_true rfl) (Nat.le_of_ble_eq_true rfl) (by decide) (by decide) (c_isKey (n := 14) (by decide) htn hv hmt tk f36 f37) (fun _ _ e139 => ?_)
                              cases e139
                              by_cases k140 : kd tn tv i = 14
                              · rw [if_pos k140]
                                refine x_if_ne (tgt := 265) dX12_isTaken_223 (by decide) (fun c_223 => ?_) (fun c_223 => absurd c_223 (by decide))
                                refine x_iconst (v := 1) dX12_isTaken_265 (by decide) ?_
                                refine x_goto (tgt := 270) dX12_isTaken_266 (by decide) ?_
                                exact x_zret dX12_isTaken_270 rfl rfl (by rw [if_neg (by omega)])
                              · rw [if_neg k140]
                                refine x_if_ne (tgt := 265) dX12_isTaken_223 (by decide) (fun c_223 => absurd (by decide) c_223) (fun c_223 => ?_)
                                refine x_aload_n dX12_isTaken_226 0 rfl ?_
                                refine x_bipush (v := 102) dX12_isTaken_227 (by decide) ?_
                                refine x_bipush (v := 114) dX12_isTaken_229 (by decide) ?_
                                refine x_bipush (v := 111) dX12_isTaken_231 (by decide) ?_
                                refine x_bipush (v := 109) dX12_isTaken_233 (by decide) ?_
                                refine x_iconst (v := 0) dX12_isTaken_235 (by decide) ?_
                                refine x_callS (rf' := 0) (rl' := 0) [.int 102, .int 114, .int 111, .int 109, .int 0] [.ref 36] dX12_isTaken_236 vX12_109 Y_X12_spelt rfl rfl (Nat.le_of_ble_eq_true rfl) (Nat.le_of_ble_eq_true rfl) (by decide) (by decide) c_spelt15 (fun _ _ e141 => ?_)
                                cases e141
                                refine x_callV (rf' := 0) (rl' := 0) [.long (lN (k27 15))] [] dX12_isTaken_239 vX12_113 Y_X12_isKey f36 (by decide) rfl rfl (Nat.le_of_ble_eq_true rfl) (Nat.le_of_ble_eq_true rfl) (by decide) (by decide) (c_isKey (n := 15) (by decide) htn hv hmt tk f36 f37) (fun _ _ e142 => ?_)
                                cases e142
                                by_cases k143 : kd tn tv i = 15
                                · rw [if_pos k143]
                                  refine x_if_ne (tgt := 265) dX12_isTaken_242 (by decide) (fun c_242 => ?_) (fun c_242 => absurd c_242 (by decide))
                                  refine x_iconst (v := 1) dX12_isTaken_265 (by decide) ?_
                                  refine x_goto (tgt := 270) dX12_isTaken_266 (by decide) ?_
                                  exact x_zret dX12_isTaken_270 rfl rfl (by rw [if_neg (by omega)])
                                · rw [if_neg k143]
                                  refine x_if_ne (tgt := 265) dX12_isTaken_242 (by decide) (fun c_242 => absurd (by decide) c_242) (fun c_242 => ?_)
                                  refine x_aload_n dX12_isTaken_245 0 rfl ?_
                                  refine x_bipush (v := 116) dX12_isTaken_246 (by decide) ?_
                                  refine x_bipush (v := 105) dX12_isTaken_248 (by decide) ?_
                                  refine x_bipush (v := 109) dX12_isTaken_250 (by decide) ?_
                                  refine x_bipush (v := 101) dX12_isTaken_252 (by decide) ?_
                                  refine x_bipush (v := 115) dX12_isTaken_254 (by decide) ?_
                                  refine x_callS (rf' := 0) (rl' := 0) [.int 116, .int 105, .int 109, .int 101, .int 115] [.ref 36] dX12_isTaken_256 vX12_109 Y_X12_spelt rfl rfl (Nat.le_of_ble_eq_true rfl) (Nat.le_of_ble_eq_true rfl) (by decide) (by decide) c_spelt16 (fun _ _ e144 => ?_)
                                  cases e144
                                  refine x_callV (rf' := 0) (rl' := 0) [.long (lN (k27 16))] [] dX12_isTaken_259 vX12_113 Y_X12_isKey f36 (by decide) rfl rfl (Nat.le_of_ble_eq_true rfl) (Nat.le_of_ble_eq_true rfl) (by decide) (by decide) (c_isKey (n := 16) (by decide) htn hv hmt tk f36 f37) (fun _ _ e145 => ?_)
                                  cases e145
                                  by_cases k146 : kd tn tv i = 16
                                  · rw [if_pos k146]
                                    refine x_if_eq (tgt := 269) dX12_isTaken_262 (by decide) (fun c_262 => absurd c_262 (by decide)) (fun c_262 => ?_)
                                    refine x_iconst (v := 1) dX12_isTaken_265 (by decide) ?_
                                    refine x_goto (tgt := 270) dX12_isTaken_266 (by decide) ?_
                                    exact x_zret dX12_isTaken_270 rfl rfl (by rw [if_neg (by omega)])
                                  · rw [if_neg k146]
                                    refine x_if_eq (tgt := 269) dX12_isTaken_262 (by decide) (fun c_262 => ?_) (fun c_262 => absurd (by decide) c_262)
                                    refine x_iconst (v := 0) dX12_isTaken_269 (by decide) ?_
                                    exact x_zret dX12_isTaken_270 rfl rfl (by rw [if_pos (by omega)])

set_option maxRecDepth 100000 in
set_option maxHeartbeats 4000000 in
theorem c_bad {G : GT} {h : List PE} {tn : Nat} {tv : Nat → Nat} {mtp : Nat → Int32} {flt plc tld too frm knd num sgn : Int32} {wrd : Int64} {x : Nat → Int32} {i k : Nat} (htn : tn ≤ 640) (hv : ∀ j, j < tn → tv j < 256) (hmt : ∀ j, j < tn → mtp j = nI (tv j)) (tk : TkM tn tv i too frm knd num sgn wrd) (f36 : h[36]? = some (cO 12 (MO ((x 0)) ((x 1)) ((x 2)) ((x 3)) ((nI tn)) too frm knd num sgn flt plc wrd tld ((x 4)) ((x 5)) ((x 6)) ((x 7)) ((x 8)) ((x 9)) ((x 10)) ((x 11))))) (f37 : h[37]? = some (cI 640 mtp)) (hk : knd = 1 → k = 1) : CT G mX12_bad 0 0 [.ref 36, .int (nI k)] h (fun o => Sm [36] h o.2 ∧ o.1 = some (.int 0) ∧ MBd o.2 tn tv x (k, i)) := by
  have sm0 : Sm [36] h h := Sm.rf
  show X (NF G) G mX12_bad 0 0 0 [(0, .ref 36), (1, .int (nI k))] [] h _
  refine x_aload_n dX12_bad_0 0 rfl ?_
  refine x_aload_n dX12_bad_1 0 rfl ?_
  refine x_get (v := .int knd) dX12_bad_2 fX12_81 f36 (by decide) rfl ?_
  refine x_iconst (v := 1) dX12_bad_5 (by decide) ?_
  refine x_icmp_ne (tgt := 13) dX12_bad_6 (by decide) (fun c_6 => ?_) (fun c_6 => ?_)
  · refine x_iload_n dX12_bad_13 1 rfl ?_
    refine x_put (fs2 := (MO ((x 0)) ((x 1)) ((x 2)) ((x 3)) ((nI tn)) too frm knd num sgn ((nI k)) plc wrd tld ((x 4)) ((x 5)) ((x 6)) ((x 7)) ((x 8)) ((x 9)) ((x 10)) ((x 11)))) dX12_bad_14 fX12_139 (Or.inl rfl) f36 (by decide) rfl rfl (Nat.le_of_ble_eq_true rfl) rfl (fun h101 a102 e103 l104 s105 => ?_)
    have f106 := (e103 37 (by decide)).trans f37
    have sm107 := Sm.put sm0 e103 l104 s105 (by decide)
    refine x_aload_n dX12_bad_17 0 rfl ?_
    refine x_aload_n dX12_bad_18 0 rfl ?_
    refine x_get (v := .int frm) dX12_bad_19 fX12_78 a102 (by decide) rfl ?_
    refine x_put (fs2 := (MO ((x 0)) ((x 1)) ((x 2)) ((x 3)) ((nI tn)) too frm knd num sgn ((nI k)) frm wrd tld ((x 4)) ((x 5)) ((x 6)) ((x 7)) ((x 8)) ((x 9)) ((x 10)) ((x 11)))) dX12_bad_22 fX12_142 (Or.inl rfl) a102 (by decide) rfl rfl (Nat.le_of_ble_eq_true rfl) rfl (fun h108 a109 e110 l111 s112 => ?_)
    have f113 := (e110 37 (by decide)).trans f106
    have sm114 := Sm.put sm107 e110 l111 s112 (by decide)
    refine x_iconst (v := 0) dX12_bad_25 (by decide) ?_
    exact x_zret dX12_bad_26 rfl rfl ⟨sm114, rfl, ⟨_, _, _, _, _, _, _, by rw [← tk.1]; exact a109⟩⟩
  · refine x_iconst (v := 1) dX12_bad_9 (by decide) ?_
    refine x_goto (tgt := 14) dX12_bad_10 (by decide) ?_
    refine x_put (fs2 := (MO ((x 0)) ((x 1)) ((x 2)) ((x 3)) ((nI tn)) too frm knd num sgn 1 plc wrd tld ((x 4)) ((x 5)) ((x 6)) ((x 7)) ((x 8)) ((x 9)) ((x 10)) ((x 11)))) dX12_bad_14 fX12_139 (Or.inl rfl) f36 (by decide) rfl rfl (Nat.le_of_ble_eq_true rfl) rfl (fun h115 a116 e117 l118 s119 => ?_)
    have f120 := (e117 37 (by decide)).trans f37
    have sm121 := Sm.put sm0 e117 l118 s119 (by decide)
    refine x_aload_n dX12_bad_17 0 rfl ?_
    refine x_aload_n dX12_bad_18 0 rfl ?_
    refine x_get (v := .int frm) dX12_bad_19 fX12_78 a116 (by decide) rfl ?_
    refine x_put (fs2 := (MO ((x 0)) ((x 1)) ((x 2)) ((x 3)) ((nI tn)) too frm knd num sgn 1 frm wrd tld ((x 4)) ((x 5)) ((x 6)) ((x 7)) ((x 8)) ((x 9)) ((x 10)) ((x 11)))) dX12_bad_22 fX12_142 (Or.inl rfl) a116 (by decide) rfl rfl (Nat.le_of_ble_eq_true rfl) rfl (fun h122 a123 e124 l125 s126 => ?_)
    have f127 := (e124 37 (by decide)).trans f120
    have sm128 := Sm.put sm121 e124 l125 s126 (by decide)
    refine x_iconst (v := 0) dX12_bad_25 (by decide) ?_
    exact x_zret dX12_bad_26 rfl rfl ⟨sm128, rfl, ⟨_, _, _, _, _, _, _, by rw [← tk.1, hk c_6]; exact a123⟩⟩

theorem c_goN {G : GT} {h : List PE} {tn : Nat} {tv : Nat → Nat} {mtp : Nat → Int32} {flt plc tld too frm knd num sgn : Int32} {wrd : Int64} {x : Nat → Int32} {i : Nat} (htn : tn ≤ 640) (hv : ∀ j, j < tn → tv j < 256) (hmt : ∀ j, j < tn → mtp j = nI (tv j)) (tk : TkM tn tv i too frm knd num sgn wrd) (f36 : h[36]? = some (cO 12 (MO ((x 0)) ((x 1)) ((x 2)) ((x 3)) ((nI tn)) too frm knd num sgn flt plc wrd tld ((x 4)) ((x 5)) ((x 6)) ((x 7)) ((x 8)) ((x 9)) ((x 10)) ((x 11))))) (f37 : h[37]? = some (cI 640 mtp)) (hk : kd tn tv i < 22) : CT G mX12_go 1 21 [.ref 36] h (fun o => o.1 = none ∧ MRd o.2 tn tv (i + 1) x flt plc tld ∧ Sm [36] h o.2) := by
  obtain ⟨p, rfl, hp, hP⟩ := tk.2.2.1 (by omega)
  exact c_go htn hv hmt hp hP f36 f37

set_option maxRecDepth 100000 in
set_option maxHeartbeats 4000000 in
theorem c_readKey {G : GT} {h : List PE} {tn : Nat} {tv : Nat → Nat} {mtp : Nat → Int32} {flt plc tld too frm knd num sgn : Int32} {wrd : Int64} {x : Nat → Int32} {i n : Nat} (hn : n < 17) (htn : tn ≤ 640) (hv : ∀ j, j < tn → tv j < 256) (hmt : ∀ j, j < tn → mtp j = nI (tv j)) (tk : TkM tn tv i too frm knd num sgn wrd) (f36 : h[36]? = some (cO 12 (MO ((x 0)) ((x 1)) ((x 2)) ((x 3)) ((nI tn)) too frm knd num sgn flt plc wrd tld ((x 4)) ((x 5)) ((x 6)) ((x 7)) ((x 8)) ((x 9)) ((x 10)) ((x 11))))) (f37 : h[37]? = some (cI 640 mtp)) : CT G mX12_readKey 2 45 [.ref 36, .long (lN (k27 n))] h (fun o => Sm [36] h o.2 ∧ match tokF tn tv n i with | none => o.1 = some (.int 1) ∧ MRd o.2 tn tv (i + 1) x flt plc tld | some f => o.1 = some (.int 0) ∧ MBd o.2 tn tv x f) := by
  have sm0 : Sm [36] h h := Sm.rf
  show X (NF G) G mX12_readKey 2 45 0 [(0, .ref 36), (1, .long (lN (k27 n)))] [] h _
  refine x_aload_n dX12_readKey_0 0 rfl ?_
  refine x_lload_n dX12_readKey_1 1 rfl ?_
  refine x_callV (rf' := 0) (rl' := 0) [.long (lN (k27 n))] [] dX12_readKey_2 vX12_113 Y_X12_isKey f36 (by decide) rfl rfl (Nat.le_of_ble_eq_true rfl) (Nat.le_of_ble_eq_true rfl) (by decide) (by decide) (c_isKey (n := n) hn htn hv hmt tk f36 f37) (fun _ _ e101 => ?_)
  cases e101
  by_cases k102 : kd tn tv i = n
  · rw [if_pos k102]
    refine x_if_ne (tgt := 14) dX12_readKey_5 (by decide) (fun c_5 => ?_) (fun c_5 => absurd c_5 (by decide))
    refine x_aload_n dX12_readKey_14 0 rfl ?_
    refine x_callV (rf' := 1) (rl' := 21) [] [] dX12_readKey_15 vX12_148 Y_X12_go f36 (by decide) rfl rfl (Nat.le_of_ble_eq_true rfl) (Nat.le_of_ble_eq_true rfl) (by decide) (by decide) (c_goN htn hv hmt tk f36 f37 (by omega)) (fun r h103 e104 => ?_)
    obtain ⟨e0, m106, sm105⟩ := e104
    cases e0
    have sm105 : Sm [36] h h103 := sm105
    have f107 := sm105.at f37 (by decide)
    have sm108 := sm0.tr (sm105.wide (by decide))
    obtain ⟨m109, m110, m111, m112, m113, m114, f115, tk116⟩ := m106
    have f115 : h103[36]? = some (cO 12 (MO ((x 0)) ((x 1)) ((x 2)) ((x 3)) ((nI tn)) m109 m110 m111 m112 m113 flt plc m114 tld ((x 4)) ((x 5)) ((x 6)) ((x 7)) ((x 8)) ((x 9)) ((x 10)) ((x 11)))) := f115
    have tk116 : TkM tn tv (i + 1) m109 m110 m111 m112 m113 m114 := tk116
    refine x_iconst (v := 1) dX12_readKey_18 (by decide) ?_
    exact x_zret dX12_readKey_19 rfl rfl ⟨sm108, by rw [show tokF tn tv n i = none from if_pos k102]; exact ⟨rfl, ⟨_, _, _, _, _, _, f115, tk116⟩⟩⟩
  · rw [if_neg k102]
    refine x_if_ne (tgt := 14) dX12_readKey_5 (by decide) (fun c_5 => absurd (by decide) c_5) (fun c_5 => ?_)
    refine x_aload_n dX12_readKey_8 0 rfl ?_
    refine x_iconst (v := 1) dX12_readKey_9 (by decide) ?_
    refine x_callV (rf' := 0) (rl' := 0) [.int 1] [] dX12_readKey_10 vX12_145 Y_X12_bad f36 (by decide) rfl rfl (Nat.le_of_ble_eq_true rfl) (Nat.le_of_ble_eq_true rfl) (by decide) (by decide) (c_bad (k := 1) htn hv hmt tk f36 f37 (fun _ => rfl)) (fun r h117 e118 => ?_)
    obtain ⟨sm119, e0, m120⟩ := e118
    cases e0
    have sm119 : Sm [36] h h117 := sm119
    have f121 := sm119.at f37 (by decide)
    have sm122 := sm0.tr (sm119.wide (by decide))
    exact x_zret dX12_readKey_13 rfl rfl ⟨sm122, by rw [show tokF tn tv n i = some (1, i) from if_neg k102]; exact ⟨rfl, m120⟩⟩

set_option maxRecDepth 100000 in
set_option maxHeartbeats 4000000 in
theorem c_readNumberM {G : GT} {h : List PE} {tn : Nat} {tv : Nat → Nat} {mtp : Nat → Int32} {flt plc tld too frm knd num sgn : Int32} {wrd : Int64} {x : Nat → Int32} {i : Nat} (htn : tn ≤ 640) (hv : ∀ j, j < tn → tv j < 256) (hmt : ∀ j, j < tn → mtp j = nI (tv j)) (tk : TkM tn tv i too frm knd num sgn wrd) {a b : Int32} (f36 : h[36]? = some (cO 12 (MO ((x 0)) ((x 1)) ((x 2)) ((x 3)) ((nI tn)) too frm knd num sgn flt plc wrd tld ((x 4)) ((x 5)) ((x 6)) ((x 7)) ((x 8)) ((x 9)) ((x 10)) ((x 11))))) (f37 : h[37]? = some (cI 640 mtp)) : CT G mX12_readNumber 2 45 [.ref 36, .int a, .int b] h (fun o => Sm [36] h o.2 ∧ match numF tn tv a b i with | none => o.1 = some (.int 1) ∧ MRd o.2 tn tv (i + 1) x flt plc (nI (nv tn tv i)) | some f => o.1 = some (.int 0) ∧ MBd o.2 tn tv x f) := by
  have sm0 : Sm [36] h h := Sm.rf
  show X (NF G) G mX12_readNumber 2 45 0 [(0, .ref 36), (1, .int a), (2, .int b)] [] h _
  refine x_aload_n dX12_readNumber_0 0 rfl ?_
  refine x_get (v := .int knd) dX12_readNumber_1 fX12_81 f36 (by decide) rfl ?_
  refine x_iconst (v := 3) dX12_readNumber_4 (by decide) ?_
  refine x_icmp_eq (tgt := 14) dX12_readNumber_5 (by decide) (fun c_5 => ?_) (fun c_5 => ?_)
  · refine x_aload_n dX12_readNumber_14 0 rfl ?_
    refine x_get (v := .int num) dX12_readNumber_15 fX12_98 f36 (by decide) rfl ?_
    refine x_iload_n dX12_readNumber_18 1 rfl ?_
    refine x_iload_n dX12_readNumber_19 2 rfl ?_
    have k18 := tk.k3.mp c_5
    have en := (tk.2.2.2.2.1 k18).2
    refine x_callS (rf' := 0) (rl' := 0) [.int num, .int a, .int b] [] dX12_readNumber_20 vX12_65 Y_X12_isIn rfl rfl (Nat.le_of_ble_eq_true rfl) (Nat.le_of_ble_eq_true rfl) (by decide) (by decide) c_isIn (fun _ _ e101 => ?_)
    cases e101
    by_cases hI : num < a ∨ b < num
    · rw [if_pos hI]
      refine x_if_ne (tgt := 32) dX12_readNumber_23 (by decide) (fun c_23 => absurd (by decide) c_23) (fun c_23 => ?_)
      refine x_aload_n dX12_readNumber_26 0 rfl ?_
      refine x_iconst (v := 2) dX12_readNumber_27 (by decide) ?_
      refine x_callV (rf' := 0) (rl' := 0) [.int 2] [] dX12_readNumber_28 vX12_145 Y_X12_bad f36 (by decide) rfl rfl (Nat.le_of_ble_eq_true rfl) (Nat.le_of_ble_eq_true rfl) (by decide) (by decide) (c_bad (k := 2) htn hv hmt tk f36 f37 (fun z => by have := tk.k1 z; omega)) (fun r h102 e103 => ?_)
      obtain ⟨sm104, e0, m105⟩ := e103
      cases e0
      have sm104 : Sm [36] h h102 := sm104
      have f106 := sm104.at f37 (by decide)
      have sm107 := sm0.tr (sm104.wide (by decide))
      exact x_zret dX12_readNumber_31 rfl rfl ⟨sm107, by rw [show numF tn tv a b i = some (2, i) from (if_pos k18).trans (if_pos (by rw [← en]; exact hI))]; exact ⟨rfl, m105⟩⟩
    · rw [if_neg hI]
      refine x_if_ne (tgt := 32) dX12_readNumber_23 (by decide) (fun c_23 => ?_) (fun c_23 => absurd c_23 (by decide))
      refine x_aload_n dX12_readNumber_32 0 rfl ?_
      refine x_aload_n dX12_readNumber_33 0 rfl ?_
      refine x_get (v := .int num) dX12_readNumber_34 fX12_98 f36 (by decide) rfl ?_
      refine x_put (fs2 := (MO ((x 0)) ((x 1)) ((x 2)) ((x 3)) ((nI tn)) too frm knd num sgn flt plc wrd num ((x 4)) ((x 5)) ((x 6)) ((x 7)) ((x 8)) ((x 9)) ((x 10)) ((x 11)))) dX12_readNumber_37 fX12_151 (Or.inl rfl) f36 (by decide) rfl rfl (Nat.le_of_ble_eq_true rfl) rfl (fun h108 a109 e110 l111 s112 => ?_)
      have f113 := (e110 37 (by decide)).trans f37
      have sm114 := Sm.put sm0 e110 l111 s112 (by decide)
      refine x_aload_n dX12_readNumber_40 0 rfl ?_
      refine x_callV (rf' := 1) (rl' := 21) [] [] dX12_readNumber_41 vX12_148 Y_X12_go a109 (by decide) rfl rfl (Nat.le_of_ble_eq_true rfl) (Nat.le_of_ble_eq_true rfl) (by decide) (by decide) (c_goN htn hv hmt tk a109 f113 (by omega)) (fun r h115 e116 => ?_)
      obtain ⟨e0, m118, sm117⟩ := e116
      cases e0
      have sm117 : Sm [36] h108 h115 := sm117
      have f119 := sm117.at f113 (by decide)
      have sm120 := sm114.tr (sm117.wide (by decide))
      obtain ⟨m121, m122, m123, m124, m125, m126, f127, tk128⟩ := m118
      have f127 : h115[36]? = some (cO 12 (MO ((x 0)) ((x 1)) ((x 2)) ((x 3)) ((nI tn)) m121 m122 m123 m124 m125 flt plc m126 num ((x 4)) ((x 5)) ((x 6)) ((x 7)) ((x 8)) ((x 9)) ((x 10)) ((x 11)))) := f127
      have tk128 : TkM tn tv (i + 1) m121 m122 m123 m124 m125 m126 := tk128
      refine x_iconst (v := 1) dX12_readNumber_44 (by decide) ?_
      exact x_zret dX12_readNumber_45 rfl rfl ⟨sm120, by rw [show numF tn tv a b i = none from (if_pos k18).trans (if_neg (by rw [← en]; exact hI)), ← en]; exact ⟨rfl, ⟨_, _, _, _, _, _, f127, tk128⟩⟩⟩
  · refine x_aload_n dX12_readNumber_8 0 rfl ?_
    refine x_iconst (v := 1) dX12_readNumber_9 (by decide) ?_
    refine x_callV (rf' := 0) (rl' := 0) [.int 1] [] dX12_readNumber_10 vX12_145 Y_X12_bad f36 (by decide) rfl rfl (Nat.le_of_ble_eq_true rfl) (Nat.le_of_ble_eq_true rfl) (by decide) (by decide) (c_bad (k := 1) htn hv hmt tk f36 f37 (fun _ => rfl)) (fun r h129 e130 => ?_)
    obtain ⟨sm131, e0, m132⟩ := e130
    cases e0
    have sm131 : Sm [36] h h129 := sm131
    have f133 := sm131.at f37 (by decide)
    have sm134 := sm0.tr (sm131.wide (by decide))
    exact x_zret dX12_readNumber_13 rfl rfl ⟨sm134, by rw [show numF tn tv a b i = some (1, i) from if_neg (fun z => c_5 (tk.k3.mpr z))]; exact ⟨rfl, m132⟩⟩

set_option maxRecDepth 100000 in
set_option maxHeartbeats 4000000 in
theorem c_readInto {G : GT} {h : List PE} {tn : Nat} {tv : Nat → Nat} {mtp : Nat → Int32} {flt plc tld too frm knd num sgn : Int32} {wrd : Int64} {x : Nat → Int32} {i : Nat} (htn : tn ≤ 640) (hv : ∀ j, j < tn → tv j < 256) (hmt : ∀ j, j < tn → mtp j = nI (tv j)) (tk : TkM tn tv i too frm knd num sgn wrd) {a b : Int32} {p : Nat} {bk : Nat → Int32} (f36 : h[36]? = some (cO 12 (MO ((x 0)) ((x 1)) ((x 2)) ((x 3)) ((nI tn)) too frm knd num sgn flt plc wrd tld ((x 4)) ((x 5)) ((x 6)) ((x 7)) ((x 8)) ((x 9)) ((x 10)) ((x 11))))) (f37 : h[37]? = some (cI 640 mtp)) (f38 : h[38]? = some (cI 10164 bk)) (hp : p < 484) : CT G mX12_readInto 3 67 [.ref 36, .int (nI p), .int a, .int b] h (fun o => Sm [36, 38] h o.2 ∧ match numF tn tv a b i with | none => o.1 = some (.int 1) ∧ MRd o.2 tn tv (i + 1) x flt plc (nI (nv tn tv i)) ∧ o.2[38]? = some (cI 10164 ((upd bk (484 * 20 + p) (nI (nv tn tv i))))) | some f => o.1 = some (.int 0) ∧ MBd o.2 tn tv x f ∧ Sm [36] h o.2) := by
  have sm0 : Sm [36, 38] h h := Sm.rf
  show X (NF G) G mX12_readInto 3 67 0 [(0, .ref 36), (1, .int (nI p)), (2, .int a), (3, .int b)] [] h _
  refine x_aload_n dX12_readInto_0 0 rfl ?_
  refine x_iload_n dX12_readInto_1 2 rfl ?_
  refine x_iload_n dX12_readInto_2 3 rfl ?_
  refine x_callV (rf' := 2) (rl' := 45) [.int a, .int b] [] dX12_readInto_3 vX12_163 Y_X12_readNumber f36 (by decide) rfl rfl (Nat.le_of_ble_eq_true rfl) (Nat.le_of_ble_eq_true rfl) (by decide) (by decide) (c_readNumberM (a := a) (b := b) htn hv hmt tk f36 f37) (fun r h101 e102 => ?_)
  obtain ⟨sm105, e102⟩ := e102
  have sm105 : Sm [36] h h101 := sm105
  have f107 := sm105.at f37 (by decide)
  have f108 := sm105.at f38 (by decide)
  have sm109 := sm0.tr (sm105.wide (by decide))
  cases q103 : numF tn tv a b i with
  | none =>
    rw [q103] at e102
    obtain ⟨e0, m106⟩ := e102
    cases e0
    obtain ⟨m110, m111, m112, m113, m114, m115, f116, tk117⟩ := m106
    have f116 : h101[36]? = some (cO 12 (MO ((x 0)) ((x 1)) ((x 2)) ((x 3)) ((nI tn)) m110 m111 m112 m113 m114 flt plc m115 ((nI (nv tn tv i))) ((x 4)) ((x 5)) ((x 6)) ((x 7)) ((x 8)) ((x 9)) ((x 10)) ((x 11)))) := f116
    have tk117 : TkM tn tv (i + 1) m110 m111 m112 m113 m114 m115 := tk117
    have kkq103 := numE q103
    refine x_if_ne (tgt := 11) dX12_readInto_6 (by decide) (fun c_6 => ?_) (fun c_6 => absurd c_6 (by decide))
    refine x_aload_n dX12_readInto_11 0 rfl ?_
    refine x_get (v := .ref 38) dX12_readInto_12 fX12_13 f116 (by decide) rfl ?_
    refine x_bipush (v := 20) dX12_readInto_15 (by decide) ?_
    refine x_callS (rf' := 0) (rl' := 0) [.int 20] [.ref 38] dX12_readInto_17 vX12_154 Y_X12_at rfl rfl (Nat.le_of_ble_eq_true rfl) (Nat.le_of_ble_eq_true rfl) (by decide) (by decide) (c_at (b := 20)) (fun _ _ e118 => ?_)
    cases e118
    refine x_iload_n dX12_readInto_20 1 rfl ?_
    refine x_iaddN (a := (484 * 20)) (b := p) dX12_readInto_21 ?_
    refine x_aload_n dX12_readInto_22 0 rfl ?_
    refine x_get (v := .int (nI (nv tn tv i))) dX12_readInto_23 fX12_151 f116 (by decide) rfl ?_
    refine x_iastN (i := ((484 * 20) + p)) dX12_readInto_26 f108 (by decide) (by omega) (by decide) (fun h119 a120 e121 l122 s123 => ?_)
    have f124 := (e121 36 (by decide)).trans f116
    have f125 := (e121 37 (by decide)).trans f107
    have sm126 := Sm.put sm109 e121 l122 s123 (by decide)
    refine x_iconst (v := 1) dX12_readInto_27 (by decide) ?_
    exact x_zret dX12_readInto_28 rfl rfl ⟨sm126, ⟨rfl, ⟨_, _, _, _, _, _, f124, tk117⟩, a120⟩⟩
  | some fl104 =>
    rw [q103] at e102
    obtain ⟨e0, m106⟩ := e102
    cases e0
    refine x_if_ne (tgt := 11) dX12_readInto_6 (by decide) (fun c_6 => absurd (by decide) c_6) (fun c_6 => ?_)
    refine x_iconst (v := 0) dX12_readInto_9 (by decide) ?_
    exact x_zret dX12_readInto_10 rfl rfl ⟨sm109, by exact ⟨rfl, m106, sm105⟩⟩

/-- the i-th byte of four, from the lowest on -/
def bq (x : Int32) (i : Nat) : Nat := x.toBitVec.toNat / 2 ^ (8 * i) % 256
theorem bq_lt (x : Int32) (i : Nat) : bq x i < 256 := Nat.mod_lt _ (by decide)
theorem by_and (z : Int32) : z &&& 255 = nI (z.toBitVec.toNat % 256) := pk_and z 8 (by decide)
theorem by_mod (z : Int32) : z.toBitVec.toNat % 256 = (z.toInt % 256).toNat := by
  have h : z.toInt = if 2 * z.toBitVec.toNat < 2 ^ 32 then (z.toBitVec.toNat : Int) else (z.toBitVec.toNat : Int) - (2 ^ 32 : Nat) := BitVec.toInt_eq_toNat_cond z.toBitVec
  have h2 := z.toBitVec.isLt
  split at h <;> omega
theorem by_sx (z : Int32) : z.toInt8.toInt32 &&& 255 = z &&& 255 := by
  rw [by_and, by_and]
  congr 1
  rw [by_mod, by_mod]
  have h1 : z.toInt8.toInt32.toInt = z.toInt8.toInt := Int8.toInt_toInt32 _
  have h2 : z.toInt8.toInt = z.toInt.bmod (2 ^ 8) := Int32.toInt_toInt8 z
  rw [h1, h2]
  have h3 : z.toInt.bmod (2 ^ 8) % 256 = z.toInt % 256 := by
    rw [show (256 : Int) = ((2 ^ 8 : Nat) : Int) from rfl, Int.bmod_emod]
  rw [h3]
theorem by_shr (x s : Int32) (i : Nat) (hi : i < 4) (hs : (s.toBitVec.smod 32).toNat = 8 * i) : (x >>> s) &&& 255 = nI (bq x i) := by
  rw [by_and]
  congr 1
  rw [by_mod, pk_shr x s (8 * i) hs]
  unfold bq
  have h : x.toInt = if 2 * x.toBitVec.toNat < 2 ^ 32 then (x.toBitVec.toNat : Int) else (x.toBitVec.toNat : Int) - (2 ^ 32 : Nat) := BitVec.toInt_eq_toNat_cond x.toBitVec
  have h2 := x.toBitVec.isLt
  generalize x.toBitVec.toNat = X at h h2
  rw [Int.shiftRight_eq_div_pow]
  match i, hi with
  | 0, _ => split at h <;> omega
  | 1, _ => split at h <;> omega
  | 2, _ => split at h <;> omega
  | 3, _ => split at h <;> omega
theorem by_cls (x s : Int32) (i : Nat) (hi : i < 4) (hs : (s.toBitVec.smod 32).toNat = 8 * i) : (x >>> s).toInt8.toInt32.toInt8.toInt32 &&& 255 = nI (bq x i) := by
  rw [by_sx, by_sx, by_shr x s i hi hs]
theorem by_mdl (x s : Int32) (i : Nat) (hs : ((s.toUInt32 &&& Int32.toUInt32 31).toBitVec % 32).toNat = 8 * i) : (x.toUInt32 >>> (s.toUInt32 &&& Int32.toUInt32 31)).toInt32 &&& 255 = nI (bq x i) := by
  rw [by_and, pk_ushr x s (8 * i) hs]
  rfl
def tvU (tv : Nat → Nat) (j v : Nat) : Nat → Nat := fun i => if i = j then v else tv i
def tvW (tv : Nat → Nat) (tn : Nat) (x : Int32) : Nat → Nat := tvU (tvU (tvU (tvU tv tn (bq x 3)) (tn + 1) (bq x 2)) (tn + 2) (bq x 1)) (tn + 3) (bq x 0)

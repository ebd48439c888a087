def Rg (h : List PE) (bk R : Nat → Int32) : Prop := ∃ bk' : Nat → Int32, h[38]? = some (cI 10164 bk') ∧ (∀ j, j < 484 * 20 → bk' j = bk j) ∧ ∀ j, j < 484 → bk' (484 * 20 + j) = R j
def RgB (h : List PE) (bk : Nat → Int32) : Prop := ∃ bk' : Nat → Int32, h[38]? = some (cI 10164 bk') ∧ ∀ j, j < 484 * 20 → bk' j = bk j
def Nmm (h : List PE) (nl : NL') (c : CN) : Prop := ∃ nm : Nat → Int64, h[40]? = some (cJ 24 nm) ∧ NmP nm nl c
def NmB (h : List PE) : Prop := ∃ nm : Nat → Int64, h[40]? = some (cJ 24 nm)
/-- behind a LINE of the model -/
def MLn (h : List PE) (F : Option (Nat × Nat)) (tn : Nat) (tv : Nat → Nat) (i : Nat) (x : Nat → Int32) (flt plc : Int32) (bk R : Nat → Int32) (nl : NL') (c : CN) (o : OT) : Prop := Sm [36, 38, 40] h o.2 ∧ match F with
  | some f => o.1 = some (.int 0) ∧ MBd o.2 tn tv x f ∧ RgB o.2 bk ∧ NmB o.2
  | none => o.1 = some (.int 1) ∧ (∃ tld : Int32, MRd o.2 tn tv i x flt plc tld) ∧ Rg o.2 bk R ∧ Nmm o.2 nl c
def zrF (bk : Nat → Int32) (a m : Nat) (j : Nat) : Int32 := if a ≤ j ∧ j < a + m then 0 else bk j
theorem zr_n {bk : Nat → Int32} {a m j : Nat} (h : j < a ∨ a + m ≤ j) : zrF bk a m j = bk j := if_neg (by omega)
theorem zr_1 {bk : Nat → Int32} {a m : Nat} : upd (zrF bk a m) (a + m) 0 = zrF bk a (m + 1) := by
  funext j
  show (if j = a + m then 0 else if a ≤ j ∧ j < a + m then 0 else bk j) = if a ≤ j ∧ j < a + (m + 1) then 0 else bk j
  by_cases e : j = a + m
  · rw [if_pos e, if_pos (by omega)]
  · rw [if_neg e]
    by_cases q : a ≤ j ∧ j < a + m
    · rw [if_pos q, if_pos (by omega)]
    · rw [if_neg q, if_neg (by omega)]
theorem zr_0 {bk : Nat → Int32} {a : Nat} : zrF bk a 0 = bk := by
  funext j
  exact if_neg (by omega)

theorem thg_cong {tn i : Nat} {tv : Nat → Nat}  {c : CN} {bk R : Nat → Int32} (hR : ∀ j, j < 484 → bk (484 * 20 + j) = R j) : ∀ j, j < 484 → (upd (upd (upd (upd (upd (upd (zrF bk (484 * 20 + (164 + 24 * c.2.1)) 24) (484 * 20 + (164 + 24 * c.2.1)) (nI (nv tn tv (i + 3)))) (484 * 20 + ((164 + 24 * c.2.1) + 1)) (nI (nv tn tv (i + 5)))) (484 * 20 + ((164 + 24 * c.2.1) + 2)) (nI (nv tn tv (i + 6)))) (484 * 20 + ((164 + 24 * c.2.1) + 3)) (nI (nv tn tv (i + 7)))) (484 * 20 + ((164 + 24 * c.2.1) + 4)) (nI (nv tn tv (i + 9)))) (484 * 20 + 1) (nI (c.2.1 + 1))) (484 * 20 + j) = thgR tn tv c.2.1 i R j := by
  intro j hj
  simp only [upd, zrF, thgR]
  repeat' split
  all_goals first | omega | rfl | exact hR j hj

theorem box_cong {tn i : Nat} {tv : Nat → Nat}  {c : CN} {bk R : Nat → Int32} (hR : ∀ j, j < 484 → bk (484 * 20 + j) = R j) : ∀ j, j < 484 → (upd (upd (upd (upd (upd (upd bk (484 * 20 + ((356 + 6 * c.2.2.1) + 0)) (nI (nv tn tv (i + 3)))) (484 * 20 + ((356 + 6 * c.2.2.1) + 1)) (nI (nv tn tv (i + 4)))) (484 * 20 + ((356 + 6 * c.2.2.1) + 2)) (nI (nv tn tv (i + 5)))) (484 * 20 + ((356 + 6 * c.2.2.1) + 3)) (nI (nv tn tv (i + 7)))) (484 * 20 + ((356 + 6 * c.2.2.1) + 4)) (nI (nv tn tv (i + 9)))) (484 * 20 + 2) (nI (c.2.2.1 + 1))) (484 * 20 + j) = boxR tn tv c.2.2.1 i R j := by
  intro j hj
  simp only [upd, boxR]
  repeat' split
  all_goals first | omega | rfl | exact hR j hj

theorem drp_cong0 {tn i : Nat} {tv : Nat → Nat} {nl : NL'}  {c : CN} {bk R : Nat → Int32} (hR : ∀ j, j < 484 → bk (484 * 20 + j) = R j) (hk : ¬ kd tn tv (i + 6) = 16) : ∀ j, j < 484 → (upd (upd (upd (upd (upd bk (484 * 20 + (404 + 4 * c.2.2.2)) (nI (tldV tn tv nl (i + 1)))) (484 * 20 + ((404 + 4 * c.2.2.2) + 1)) (nI (nv tn tv (i + 3)))) (484 * 20 + ((404 + 4 * c.2.2.2) + 2)) (nI (nv tn tv (i + 5)))) (484 * 20 + (404 + 4 * c.2.2.2) + 3) 1) (484 * 20 + 3) (nI (c.2.2.2 + 1))) (484 * 20 + j) = drpR tn tv nl c.2.2.2 i R j := by
  intro j hj
  simp only [upd, drpR, if_neg hk]
  repeat' split
  all_goals first | omega | rfl | exact hR j hj

theorem drp_cong1 {tn i : Nat} {tv : Nat → Nat} {nl : NL'}  {c : CN} {bk R : Nat → Int32} (hR : ∀ j, j < 484 → bk (484 * 20 + j) = R j) (hk : kd tn tv (i + 6) = 16) : ∀ j, j < 484 → (upd (upd (upd (upd (upd (upd bk (484 * 20 + (404 + 4 * c.2.2.2)) (nI (tldV tn tv nl (i + 1)))) (484 * 20 + ((404 + 4 * c.2.2.2) + 1)) (nI (nv tn tv (i + 3)))) (484 * 20 + ((404 + 4 * c.2.2.2) + 2)) (nI (nv tn tv (i + 5)))) (484 * 20 + (404 + 4 * c.2.2.2) + 3) 1) (484 * 20 + ((404 + 4 * c.2.2.2) + 3)) (nI (nv tn tv (i + 7)))) (484 * 20 + 3) (nI (c.2.2.2 + 1))) (484 * 20 + j) = drpR tn tv nl c.2.2.2 i R j := by
  intro j hj
  simp only [upd, drpR, if_pos hk]
  repeat' split
  all_goals first | omega | rfl | exact hR j hj

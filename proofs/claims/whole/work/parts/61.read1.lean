/-! ===== the class reads a BOOK ===== -/
theorem lt_at {h : List PE} {j : Nat} {c : PE} (f : h[j]? = some c) : j < h.length := (List.getElem?_eq_some_iff.mp f).1
/-- cells below m are as they were but those of L; at most a cells and b slots more -/
def Gr (m : Nat) (L : List Nat) (a b : Nat) (h h' : List PE) : Prop := (∀ j, j < m → j ∉ L → h'[j]? = h[j]?) ∧ h.length ≤ h'.length ∧ h'.length ≤ h.length + a ∧ g_s h' ≤ g_s h + b
theorem Gr.rf {m : Nat} {L : List Nat} {h : List PE} : Gr m L 0 0 h h := ⟨fun _ _ _ => rfl, Nat.le_refl _, Nat.le_refl _, Nat.le_refl _⟩
theorem Gr.put {m : Nat} {L : List Nat} {a b x : Nat} {h h1 h2 : List PE} (hs : Gr m L a b h h1) (ne : ∀ j, j ≠ x → h2[j]? = h1[j]?) (hl : h2.length = h1.length) (hz : g_s h2 = g_s h1) (ha : x ∈ L ∨ m ≤ x) : Gr m L a b h h2 :=
  ⟨fun j hj hn => (ne j (fun e => by subst e; exact ha.elim hn (fun z => by omega))).trans (hs.1 j hj hn), by have := hs.2.1; omega, by have := hs.2.2.1; omega, by have := hs.2.2.2; omega⟩
theorem Gr.new {m : Nat} {L : List Nat} {a b x n : Nat} {h h1 h2 : List PE} (hs : Gr m L a b h h1) (ea : x = h1.length) (ne : ∀ j, j < x → h2[j]? = h1[j]?) (hl : h2.length = x + 1) (hz : g_s h2 = g_s h1 + n) (hm : m ≤ h1.length := by omega) : Gr m L (a + 1) (b + n) h h2 :=
  ⟨fun j hj hn => (ne j (by omega)).trans (hs.1 j hj hn), by have := hs.2.1; omega, by have := hs.2.2.1; omega, by have := hs.2.2.2; omega⟩
theorem Gr.sm {m : Nat} {L L' : List Nat} {a b : Nat} {h h1 h2 : List PE} (hs : Gr m L a b h h1) (s : Sm L' h1 h2) (hL : ∀ x, x ∈ L' → x ∈ L ∨ m ≤ x) : Gr m L a b h h2 :=
  ⟨fun j hj hn => (s.2.2 j (fun q => (hL j q).elim hn (fun z => by omega))).trans (hs.1 j hj hn), by have := hs.2.1; have := s.1; omega, by have := hs.2.2.1; have := s.1; omega, by have := hs.2.2.2; have := s.2.1; omega⟩
theorem Gr.tr {m m' : Nat} {L L' : List Nat} {a b a' b' : Nat} {h h1 h2 : List PE} (hs : Gr m L a b h h1) (s : Gr m' L' a' b' h1 h2) (hL : ∀ x, x < m → x ∈ L' → x ∈ L) (hm : m ≤ m') : Gr m L (a + a') (b + b') h h2 :=
  ⟨fun j hj hn => (s.1 j (by omega) (fun q => hn (hL j hj q))).trans (hs.1 j hj hn), by have := hs.2.1; have := s.2.1; omega, by have := hs.2.2.1; have := s.2.2.1; omega, by have := hs.2.2.2; have := s.2.2.2; omega⟩
theorem Gr.wide {m m' : Nat} {L L' : List Nat} {a b a' b' : Nat} {h h1 : List PE} (hs : Gr m' L' a b h h1) (hL : ∀ x, x < m → x ∈ L' → x ∈ L) (hm : m ≤ m') (ha : a ≤ a') (hb : b ≤ b') : Gr m L a' b' h h1 :=
  ⟨fun j hj hn => hs.1 j (by omega) (fun q => hn (hL j hj q)), hs.2.1, by have := hs.2.2.1; omega, by have := hs.2.2.2; omega⟩
theorem Gr.at {m : Nat} {L : List Nat} {a b : Nat} {h h1 : List PE} (hs : Gr m L a b h h1) {j : Nat} {c : PE} (f : h[j]? = some c) (hj : j < m) (hn : j ∉ L) : h1[j]? = some c := (hs.1 j hj hn).trans f
theorem TkR.kept {h h1 : List PE} {tn : Nat} {tv : Nat → Nat} {N : Nat} (x : TkR h tn tv N) (e : ∀ j, j ∈ [7, 9, 10, 11] → h1[j]? = h[j]?) : TkR h1 tn tv N := by
  obtain ⟨z9, z10, z11, a, b, c, d, r⟩ := x
  exact ⟨z9, z10, z11, (e 7 (by decide)).trans a, (e 9 (by decide)).trans b, (e 10 (by decide)).trans c, (e 11 (by decide)).trans d, r⟩
theorem TkR.gr {h h1 : List PE} {tn : Nat} {tv : Nat → Nat} {N m a b : Nat} {L : List Nat} (x : TkR h tn tv N) (g : Gr m L a b h h1) (hm : 51 ≤ m) (hL : ∀ j, j ∈ [7, 9, 10, 11] → j ∉ L) : TkR h1 tn tv N := by
  refine x.kept (fun j hj => g.1 j ?_ (hL j hj))
  have : j ≤ 11 := by
    revert j
    decide
  omega
theorem TkR.le {h : List PE} {tn : Nat} {tv : Nat → Nat} {N : Nat} (x : TkR h tn tv N) : N ≤ 600 := by
  obtain ⟨z9, z10, z11, -, -, -, -, hR, -⟩ := x
  cases N with
  | zero => omega
  | succ n =>
    have h1 := (tkP_le (tn := tn) (tv := tv) n (fun j hj => (hR j (by omega)).1)).1
    have h2 := (hR n (by omega)).1
    have h3 := (tkM_le tn).2
    omega
theorem TkR.ki {h : List PE} {tn : Nat} {tv : Nat → Nat} {N i : Nat} (x : TkR h tn tv N) (hi : i ≤ N) : (i < N → kd tn tv i = tkK tn tv (tkP tn tv i)) ∧ (N ≤ i → kd tn tv i = 22) := by
  obtain ⟨z9, z10, z11, -, -, -, -, hR, hN⟩ := x
  refine ⟨fun q => if_pos (hR i q).1, fun q => ?_⟩
  have e : i = N := by omega
  subst e
  exact if_neg (by omega)

def wc (tn : Nat) (tv : Nat → Nat) (i : Nat) : Nat := tkC tn tv (tkP tn tv i)
theorem kd_word {tn i : Nat} {tv : Nat → Nat} (h : kd tn tv i ≤ 17) : WP (wn tn tv i) (wc tn tv i) ∧ kd tn tv i = kW (wn tn tv i) := by
  unfold kd at h ⊢
  by_cases e : tkP tn tv i < tkM tn
  · rw [if_pos e] at h ⊢
    obtain ⟨-, -, -, a, b⟩ := tkK_word h
    exact ⟨b, a⟩
  · rw [if_neg e] at h; omega
theorem kd_num {tn i : Nat} {tv : Nat → Nat} (h : kd tn tv i = 18) : nv tn tv i < 100000 := by
  unfold kd at h
  by_cases e : tkP tn tv i < tkM tn
  · rw [if_pos e] at h; exact (tkK_num h).2.2.2
  · rw [if_neg e] at h; omega
theorem kd_le (tn : Nat) (tv : Nat → Nat) (i : Nat) : kd tn tv i ≤ 22 := by
  unfold kd
  have := tkK_le tn tv (tkP tn tv i)
  split <;> omega
/-- what is wrong with the TOKEN i, where a TOKEN, a NUMBER, a new NAME, a told NAME must come: the FAULT and the TOKEN -/
def tokF (tn : Nat) (tv : Nat → Nat) (k i : Nat) : Option (Nat × Nat) := if kd tn tv i = k then none else some (1, i)
def numF (tn : Nat) (tv : Nat → Nat) (a b : Int32) (i : Nat) : Option (Nat × Nat) := if kd tn tv i = 18 then (if nI (nv tn tv i) < a ∨ b < nI (nv tn tv i) then some (2, i) else none) else some (1, i)
/-- the NAMES told: kind, number, WORD -/
abbrev NL' : Type := List (Nat × Nat × Nat)
def ixN (nl : NL') (w : Nat) : Nat := fsM (fun e => decide ((nl.getD e (0, 0, 0)).2.2 = w)) nl.length 0
def newF (tn : Nat) (tv : Nat → Nat) (nl : NL') (i : Nat) : Option (Nat × Nat) := if kd tn tv i = 17 then (if ixN nl (wn tn tv i) < nl.length then some (3, i) else none) else some (1, i)
def tldF (tn : Nat) (tv : Nat → Nat) (nl : NL') (sort i : Nat) : Option (Nat × Nat) := if kd tn tv i = 17 then (if ixN nl (wn tn tv i) < nl.length ∧ (nl.getD (ixN nl (wn tn tv i)) (0, 0, 0)).1 = sort then none else some (3, i)) else some (1, i)
def tldV (tn : Nat) (tv : Nat → Nat) (nl : NL') (i : Nat) : Nat := (nl.getD (ixN nl (wn tn tv i)) (0, 0, 0)).2.1
def NmC (h : List PE) (nl : NL') : Prop := nl.length ≤ 24 ∧ ∃ (y12 : Nat → Int64) (y13 y14 : Nat → Int32), h[12]? = some (cJ 24 y12) ∧ h[13]? = some (cI 24 y13) ∧ h[14]? = some (cI 24 y14) ∧ ∀ e, e < nl.length → y13 e = nI (nl.getD e (0, 0, 0)).1 ∧ y14 e = nI (nl.getD e (0, 0, 0)).2.1 ∧ (nl.getD e (0, 0, 0)).1 < 3 ∧ (nl.getD e (0, 0, 0)).2.1 < 8 ∧ ∃ b, WP (nl.getD e (0, 0, 0)).2.2 b ∧ y12 e = lN b
theorem NmC.kept {h h1 : List PE} {nl : NL'} (x : NmC h nl) (e : ∀ j, j ∈ [12, 13, 14] → h1[j]? = h[j]?) : NmC h1 nl := by
  obtain ⟨hl, a, b, c, q1, q2, q3, r⟩ := x
  exact ⟨hl, a, b, c, (e 12 (by decide)).trans q1, (e 13 (by decide)).trans q2, (e 14 (by decide)).trans q3, r⟩
theorem NmC.gr {h h1 : List PE} {nl : NL'} {m a b : Nat} {L : List Nat} (x : NmC h nl) (g : Gr m L a b h h1) (hm : 51 ≤ m) (hL : ∀ j, j ∈ [12, 13, 14] → j ∉ L) : NmC h1 nl := by
  refine x.kept (fun j hj => g.1 j ?_ (hL j hj))
  have : j ≤ 14 := by
    revert j
    decide
  omega

set_option maxRecDepth 100000 in
set_option maxHeartbeats 4000000 in
theorem c_kindAt {G : GT} {h : List PE} {tn N i : Nat} {tv : Nat → Nat} (hTk : TkR h tn tv N) (hi : i ≤ N)  : CT G mX10_kindAt 0 0 [.ref 7, .int (nI i)] h (fun o => o = (some (.int (nI (kd tn tv i))), h)) := by
  obtain ⟨z9, z10, z11, f7, f9, f10, f11, hR, hN⟩ := id hTk
  have hN6 := hTk.le
  have hk := hTk.ki hi
  show X (NF G) G mX10_kindAt 0 0 0 [(0, .ref 7), (1, .int (nI i))] [] h _
  refine x_iload_n dX10_kindAt_0 1 rfl ?_
  refine x_if_ltN (a := i) (by omega) (tgt := 19) dX10_kindAt_1 (by decide) ?_
  refine x_iload_n dX10_kindAt_4 1 rfl ?_
  refine x_aload_n dX10_kindAt_5 0 rfl ?_
  refine x_get (v := .int (nI N)) dX10_kindAt_6 fX10_23 f7 (by decide) rfl ?_
  refine x_icmp_geN (tgt := 19) (a := i) (b := N) (by omega) (by omega) dX10_kindAt_9 (by decide) (fun c_9 => ?_) (fun c_9 => ?_)
  · refine x_bipush (v := 22) dX10_kindAt_19 (by decide) ?_
    refine x_goto (tgt := 30) dX10_kindAt_21 (by decide) ?_
    exact x_iret dX10_kindAt_30 rfl (by rw [hk.2 (by omega)]; rfl)
  · refine x_iload_n dX10_kindAt_12 1 rfl ?_
    refine x_sipush (v := 600) dX10_kindAt_13 (by decide) ?_
    refine x_icmp_ltN (tgt := 24) (a := i) (b := 600) (by omega) (by omega) dX10_kindAt_16 (by decide) (fun c_16 => ?_) (fun c_16 => absurd (by omega) c_16)
    refine x_aload_n dX10_kindAt_24 0 rfl ?_
    refine x_get (v := .ref 9) dX10_kindAt_25 fX10_13 f7 (by decide) rfl ?_
    refine x_iload_n dX10_kindAt_28 1 rfl ?_
    refine x_ialdN (i := i) dX10_kindAt_29 f9 (by decide) (by omega) (by decide) ?_
    exact x_iret dX10_kindAt_30 rfl (by rw [hk.1 (by omega), (hR i (by omega)).2.1])

set_option maxRecDepth 100000 in
set_option maxHeartbeats 4000000 in
theorem c_placeAt {G : GT} {h : List PE} {tn N i : Nat} {tv : Nat → Nat} (hTk : TkR h tn tv N) (hi : i ≤ N)  : CT G mX10_placeAt 0 0 [.ref 7, .int (nI i)] h (fun o => o = (some (.int (nI (plc' tn tv i))), h)) := by
  obtain ⟨z9, z10, z11, f7, f9, f10, f11, hR, hN⟩ := id hTk
  have hN6 := hTk.le
  have hk := hTk.ki hi
  show X (NF G) G mX10_placeAt 0 0 0 [(0, .ref 7), (1, .int (nI i))] [] h _
  refine x_iload_n dX10_placeAt_0 1 rfl ?_
  refine x_if_ltN (a := i) (by omega) (tgt := 19) dX10_placeAt_1 (by decide) ?_
  refine x_iload_n dX10_placeAt_4 1 rfl ?_
  refine x_aload_n dX10_placeAt_5 0 rfl ?_
  refine x_get (v := .int (nI N)) dX10_placeAt_6 fX10_23 f7 (by decide) rfl ?_
  refine x_icmp_geN (tgt := 19) (a := i) (b := N) (by omega) (by omega) dX10_placeAt_9 (by decide) (fun c_9 => ?_) (fun c_9 => ?_)
  · refine x_aload_n dX10_placeAt_19 0 rfl ?_
    refine x_get (v := .int (nI (tkM tn))) dX10_placeAt_20 fX10_27 f7 (by decide) rfl ?_
    refine x_goto (tgt := 32) dX10_placeAt_23 (by decide) ?_
    exact x_iret dX10_placeAt_32 rfl (by rw [show plc' tn tv i = tkM tn from if_neg (by have e : i = N := (by omega); rw [e]; omega)])
  · refine x_iload_n dX10_placeAt_12 1 rfl ?_
    refine x_sipush (v := 600) dX10_placeAt_13 (by decide) ?_
    refine x_icmp_ltN (tgt := 26) (a := i) (b := 600) (by omega) (by omega) dX10_placeAt_16 (by decide) (fun c_16 => ?_) (fun c_16 => absurd (by omega) c_16)
    refine x_aload_n dX10_placeAt_26 0 rfl ?_
    refine x_get (v := .ref 10) dX10_placeAt_27 fX10_17 f7 (by decide) rfl ?_
    refine x_iload_n dX10_placeAt_30 1 rfl ?_
    refine x_ialdN (i := i) dX10_placeAt_31 f10 (by decide) (by omega) (by decide) ?_
    exact x_iret dX10_placeAt_32 rfl (by unfold plc'; rw [if_pos (hR i (by omega)).1, (hR i (by omega)).2.2.1])

set_option maxRecDepth 100000 in
set_option maxHeartbeats 4000000 in
theorem c_valueN {G : GT} {h : List PE} {tn N i : Nat} {tv : Nat → Nat} (hTk : TkR h tn tv N) (hi : i ≤ N) (hv : kd tn tv i = 18) : CT G mX10_valueAt 0 0 [.ref 7, .int (nI i)] h (fun o => o = (some (.long (lN (nv tn tv i))), h)) := by
  obtain ⟨z9, z10, z11, f7, f9, f10, f11, hR, hN⟩ := id hTk
  have hN6 := hTk.le
  have hk := hTk.ki hi
  show X (NF G) G mX10_valueAt 0 0 0 [(0, .ref 7), (1, .int (nI i))] [] h _
  refine x_iload_n dX10_valueAt_0 1 rfl ?_
  refine x_if_ltN (a := i) (by omega) (tgt := 19) dX10_valueAt_1 (by decide) ?_
  refine x_iload_n dX10_valueAt_4 1 rfl ?_
  refine x_aload_n dX10_valueAt_5 0 rfl ?_
  refine x_get (v := .int (nI N)) dX10_valueAt_6 fX10_23 f7 (by decide) rfl ?_
  refine x_icmp_geN (tgt := 19) (a := i) (b := N) (by omega) (by omega) dX10_valueAt_9 (by decide) (fun c_9 => absurd c_9 (by have := hk.2; omega)) (fun c_9 => ?_)
  refine x_iload_n dX10_valueAt_12 1 rfl ?_
  refine x_sipush (v := 600) dX10_valueAt_13 (by decide) ?_
  refine x_icmp_ltN (tgt := 23) (a := i) (b := 600) (by omega) (by omega) dX10_valueAt_16 (by decide) (fun c_16 => ?_) (fun c_16 => absurd (by omega) c_16)
  refine x_aload_n dX10_valueAt_23 0 rfl ?_
  refine x_get (v := .ref 11) dX10_valueAt_24 fX10_20 f7 (by decide) rfl ?_
  refine x_iload_n dX10_valueAt_27 1 rfl ?_
  refine x_laldN (i := i) dX10_valueAt_28 f11 (by decide) (by omega) (by decide) ?_
  exact x_lret dX10_valueAt_29 rfl (by rw [(hR i (by omega)).2.2.2.2 (by rw [← hk.1 (by omega)]; exact hv)]; rfl)

set_option maxRecDepth 100000 in
set_option maxHeartbeats 4000000 in
theorem c_valueW {G : GT} {h : List PE} {tn N i : Nat} {tv : Nat → Nat} (hTk : TkR h tn tv N) (hi : i ≤ N) (hv : kd tn tv i ≤ 17) : CT G mX10_valueAt 0 0 [.ref 7, .int (nI i)] h (fun o => o = (some (.long (lN (wc tn tv i))), h)) := by
  obtain ⟨z9, z10, z11, f7, f9, f10, f11, hR, hN⟩ := id hTk
  have hN6 := hTk.le
  have hk := hTk.ki hi
  show X (NF G) G mX10_valueAt 0 0 0 [(0, .ref 7), (1, .int (nI i))] [] h _
  refine x_iload_n dX10_valueAt_0 1 rfl ?_
  refine x_if_ltN (a := i) (by omega) (tgt := 19) dX10_valueAt_1 (by decide) ?_
  refine x_iload_n dX10_valueAt_4 1 rfl ?_
  refine x_aload_n dX10_valueAt_5 0 rfl ?_
  refine x_get (v := .int (nI N)) dX10_valueAt_6 fX10_23 f7 (by decide) rfl ?_
  refine x_icmp_geN (tgt := 19) (a := i) (b := N) (by omega) (by omega) dX10_valueAt_9 (by decide) (fun c_9 => absurd c_9 (by have := hk.2; omega)) (fun c_9 => ?_)
  refine x_iload_n dX10_valueAt_12 1 rfl ?_
  refine x_sipush (v := 600) dX10_valueAt_13 (by decide) ?_
  refine x_icmp_ltN (tgt := 23) (a := i) (b := 600) (by omega) (by omega) dX10_valueAt_16 (by decide) (fun c_16 => ?_) (fun c_16 => absurd (by omega) c_16)
  refine x_aload_n dX10_valueAt_23 0 rfl ?_
  refine x_get (v := .ref 11) dX10_valueAt_24 fX10_20 f7 (by decide) rfl ?_
  refine x_iload_n dX10_valueAt_27 1 rfl ?_
  refine x_laldN (i := i) dX10_valueAt_28 f11 (by decide) (by omega) (by decide) ?_
  exact x_lret dX10_valueAt_29 rfl (by rw [(hR i (by omega)).2.2.2.1 (by rw [← hk.1 (by omega)]; exact hv)]; rfl)

set_option maxRecDepth 100000 in
set_option maxHeartbeats 4000000 in
theorem c_refuse {G : GT} {h : List PE} {nc v ft fk : Int32} {at9 a b : Int32} (f6 : h[6]? = some (cO 1 [.ref 7, .ref 12, .ref 13, .ref 14, .int nc, .int at9, .int v, .int ft, .int fk])) : CT G mX1_refuse 0 0 [.ref 6, .int a, .int b] h (fun o => Sm [6] h o.2 ∧ o.1 = some (.int 0) ∧ o.2[6]? = some (cO 1 [.ref 7, .ref 12, .ref 13, .ref 14, .int nc, .int at9, .int v, .int a, .int b])) := by
  have sm0 : Sm [6] h h := Sm.rf
  show X (NF G) G mX1_refuse 0 0 0 [(0, .ref 6), (1, .int a), (2, .int b)] [] h _
  refine x_aload_n dX1_refuse_0 0 rfl ?_
  refine x_iload_n dX1_refuse_1 2 rfl ?_
  refine x_put (fs2 := [.ref 7, .ref 12, .ref 13, .ref 14, .int nc, .int at9, .int v, .int ft, .int b]) dX1_refuse_2 fX1_44 (Or.inl rfl) f6 (by decide) rfl rfl (Nat.le_of_ble_eq_true rfl) rfl (fun h101 a102 e103 l104 s105 => ?_)
  have sm106 := Sm.put sm0 e103 l104 s105 (by decide)
  refine x_aload_n dX1_refuse_5 0 rfl ?_
  refine x_iload_n dX1_refuse_6 1 rfl ?_
  refine x_put (fs2 := [.ref 7, .ref 12, .ref 13, .ref 14, .int nc, .int at9, .int v, .int a, .int b]) dX1_refuse_7 fX1_41 (Or.inl rfl) a102 (by decide) rfl rfl (Nat.le_of_ble_eq_true rfl) rfl (fun h107 a108 e109 l110 s111 => ?_)
  have sm112 := Sm.put sm106 e109 l110 s111 (by decide)
  refine x_iconst (v := 0) dX1_refuse_10 (by decide) ?_
  exact x_zret dX1_refuse_11 rfl rfl ⟨sm112, rfl, a108⟩

set_option maxRecDepth 100000 in
set_option maxHeartbeats 4000000 in
theorem c_isNow {G : GT} {h : List PE} {tn N i : Nat} {tv : Nat → Nat} (hTk : TkR h tn tv N) (hi : i ≤ N) {nc v ft fk : Int32} {k : Nat} (hk9 : k < 100) (f6 : h[6]? = some (cO 1 [.ref 7, .ref 12, .ref 13, .ref 14, .int nc, .int (nI i), .int v, .int ft, .int fk])) : CT G mX1_isNow 1 21 [.ref 6, .int (nI k)] h (fun o => o = (some (.int (if kd tn tv i = k then 1 else 0)), h)) := by
  obtain ⟨z9, z10, z11, f7, f9, f10, f11, hR, hN⟩ := id hTk
  have hN6 := hTk.le
  have hkl := kd_le tn tv i
  have sm0 : Sm [6] h h := Sm.rf
  have hk := hTk.ki hi
  show X (NF G) G mX1_isNow 1 21 0 [(0, .ref 6), (1, .int (nI k))] [] h _
  refine x_aload_n dX1_isNow_0 0 rfl ?_
  refine x_get (v := .ref 7) dX1_isNow_1 fX1_14 f6 (by decide) rfl ?_
  refine x_aload_n dX1_isNow_4 0 rfl ?_
  refine x_get (v := .int (nI i)) dX1_isNow_5 fX1_35 f6 (by decide) rfl ?_
  refine x_callV (rf' := 0) (rl' := 0) [.int (nI i)] [] dX1_isNow_8 vX1_79 Y_X10_kindAt f7 (by decide) rfl rfl (Nat.le_of_ble_eq_true rfl) (Nat.le_of_ble_eq_true rfl) (by decide) (by decide) (c_kindAt hTk hi) (fun _ _ e101 => ?_)
  cases e101
  refine x_iload_n dX1_isNow_11 1 rfl ?_
  refine x_icmp_ne (tgt := 19) dX1_isNow_12 (by decide) (fun c_12 => ?_) (fun c_12 => ?_)
  · refine x_iconst (v := 0) dX1_isNow_19 (by decide) ?_
    exact x_zret dX1_isNow_20 rfl rfl (by rw [if_neg (fun z => c_12 (by rw [z]))])
  · refine x_iconst (v := 1) dX1_isNow_15 (by decide) ?_
    refine x_goto (tgt := 20) dX1_isNow_16 (by decide) ?_
    exact x_zret dX1_isNow_20 rfl rfl (by rw [if_pos ((nI_eq (by omega) (by omega)).mp c_12)])

set_option maxRecDepth 100000 in
set_option maxHeartbeats 4000000 in
theorem c_readToken {G : GT} {h : List PE} {tn N i : Nat} {tv : Nat → Nat} (hTk : TkR h tn tv N) (hi : i ≤ N) {nc v ft fk : Int32} {k : Nat} (hk9 : k < 100) (f6 : h[6]? = some (cO 1 [.ref 7, .ref 12, .ref 13, .ref 14, .int nc, .int (nI i), .int v, .int ft, .int fk])) : CT G mX1_readToken 1 22 [.ref 6, .int (nI k)] h (fun o => Sm [6] h o.2 ∧ match tokF tn tv k i with | none => o.1 = some (.int 1) ∧ o.2[6]? = some (cO 1 [.ref 7, .ref 12, .ref 13, .ref 14, .int nc, .int (nI (i + 1)), .int v, .int ft, .int fk]) | some f => o.1 = some (.int 0) ∧ o.2[6]? = some (cO 1 [.ref 7, .ref 12, .ref 13, .ref 14, .int nc, .int (nI i), .int v, .int (nI f.2), .int (nI f.1)])) := by
  obtain ⟨z9, z10, z11, f7, f9, f10, f11, hR, hN⟩ := id hTk
  have hN6 := hTk.le
  have hkl := kd_le tn tv i
  have sm0 : Sm [6] h h := Sm.rf
  have hk := hTk.ki hi
  show X (NF G) G mX1_readToken 1 22 0 [(0, .ref 6), (1, .int (nI k))] [] h _
  refine x_aload_n dX1_readToken_0 0 rfl ?_
  refine x_get (v := .ref 7) dX1_readToken_1 fX1_14 f6 (by decide) rfl ?_
  refine x_aload_n dX1_readToken_4 0 rfl ?_
  refine x_get (v := .int (nI i)) dX1_readToken_5 fX1_35 f6 (by decide) rfl ?_
  refine x_callV (rf' := 0) (rl' := 0) [.int (nI i)] [] dX1_readToken_8 vX1_79 Y_X10_kindAt f7 (by decide) rfl rfl (Nat.le_of_ble_eq_true rfl) (Nat.le_of_ble_eq_true rfl) (by decide) (by decide) (c_kindAt hTk hi) (fun _ _ e101 => ?_)
  cases e101
  refine x_iload_n dX1_readToken_11 1 rfl ?_
  refine x_icmp_eq (tgt := 25) dX1_readToken_12 (by decide) (fun c_12 => ?_) (fun c_12 => ?_)
  · refine x_aload_n dX1_readToken_25 0 rfl ?_
    refine x_dup dX1_readToken_26 rfl ?_
    refine x_get (v := .int (nI i)) dX1_readToken_27 fX1_35 f6 (by decide) rfl ?_
    refine x_iconst (v := 1) dX1_readToken_30 (by decide) ?_
    refine x_iaddN (a := i) (b := 1) dX1_readToken_31 ?_
    refine x_put (fs2 := [.ref 7, .ref 12, .ref 13, .ref 14, .int nc, .int (nI (i + 1)), .int v, .int ft, .int fk]) dX1_readToken_32 fX1_35 (Or.inl rfl) f6 (by decide) rfl rfl (Nat.le_of_ble_eq_true rfl) rfl (fun h102 a103 e104 l105 s106 => ?_)
    have f107 := (e104 7 (by decide)).trans f7
    have sm108 := Sm.put sm0 e104 l105 s106 (by decide)
    refine x_iconst (v := 1) dX1_readToken_35 (by decide) ?_
    exact x_zret dX1_readToken_36 rfl rfl ⟨sm108, by rw [show tokF tn tv k i = none from if_pos ((nI_eq (by omega) (by omega)).mp c_12)]; exact ⟨rfl, a103⟩⟩
  · refine x_aload_n dX1_readToken_15 0 rfl ?_
    refine x_aload_n dX1_readToken_16 0 rfl ?_
    refine x_get (v := .int (nI i)) dX1_readToken_17 fX1_35 f6 (by decide) rfl ?_
    refine x_iconst (v := 1) dX1_readToken_20 (by decide) ?_
    refine x_callV (rf' := 0) (rl' := 0) [.int (nI i), .int 1] [] dX1_readToken_21 vX1_71 Y_X1_refuse f6 (by decide) rfl rfl (Nat.le_of_ble_eq_true rfl) (Nat.le_of_ble_eq_true rfl) (by decide) (by decide) (c_refuse f6) (fun r h109 e110 => ?_)
    obtain ⟨sm112, e0, g111⟩ := e110
    cases e0
    have sm113 := sm0.tr (sm112.wide (by decide))
    have f114 := sm112.at f7 (by decide)
    exact x_zret dX1_readToken_24 rfl rfl ⟨sm113, by rw [show tokF tn tv k i = some (1, i) from if_neg (fun z => c_12 (by rw [z]))]; exact ⟨rfl, g111⟩⟩

set_option maxRecDepth 100000 in
set_option maxHeartbeats 4000000 in
theorem c_readNumber {G : GT} {h : List PE} {tn N i : Nat} {tv : Nat → Nat} (hTk : TkR h tn tv N) (hi : i ≤ N) {nc v ft fk : Int32} {a b : Int32} (f6 : h[6]? = some (cO 1 [.ref 7, .ref 12, .ref 13, .ref 14, .int nc, .int (nI i), .int v, .int ft, .int fk])) : CT G mX1_readNumber 1 22 [.ref 6, .int a, .int b] h (fun o => Sm [6] h o.2 ∧ match numF tn tv a b i with | none => o.1 = some (.int 1) ∧ o.2[6]? = some (cO 1 [.ref 7, .ref 12, .ref 13, .ref 14, .int nc, .int (nI (i + 1)), .int (nI (nv tn tv i)), .int ft, .int fk]) | some f => o.1 = some (.int 0) ∧ ∃ v2 : Int32, o.2[6]? = some (cO 1 [.ref 7, .ref 12, .ref 13, .ref 14, .int nc, .int (nI i), .int v2, .int (nI f.2), .int (nI f.1)])) := by
  obtain ⟨z9, z10, z11, f7, f9, f10, f11, hR, hN⟩ := id hTk
  have hN6 := hTk.le
  have hkl := kd_le tn tv i
  have sm0 : Sm [6] h h := Sm.rf
  have hk := hTk.ki hi
  show X (NF G) G mX1_readNumber 1 22 0 [(0, .ref 6), (1, .int a), (2, .int b)] [] h _
  refine x_aload_n dX1_readNumber_0 0 rfl ?_
  refine x_get (v := .ref 7) dX1_readNumber_1 fX1_14 f6 (by decide) rfl ?_
  refine x_aload_n dX1_readNumber_4 0 rfl ?_
  refine x_get (v := .int (nI i)) dX1_readNumber_5 fX1_35 f6 (by decide) rfl ?_
  refine x_callV (rf' := 0) (rl' := 0) [.int (nI i)] [] dX1_readNumber_8 vX1_79 Y_X10_kindAt f7 (by decide) rfl rfl (Nat.le_of_ble_eq_true rfl) (Nat.le_of_ble_eq_true rfl) (by decide) (by decide) (c_kindAt hTk hi) (fun _ _ e101 => ?_)
  cases e101
  refine x_bipush (v := 18) dX1_readNumber_11 (by decide) ?_
  refine x_icmp_eq (tgt := 26) dX1_readNumber_13 (by decide) (fun c_13 => ?_) (fun c_13 => ?_)
  · refine x_aload_n dX1_readNumber_26 0 rfl ?_
    refine x_aload_n dX1_readNumber_27 0 rfl ?_
    refine x_get (v := .ref 7) dX1_readNumber_28 fX1_14 f6 (by decide) rfl ?_
    refine x_aload_n dX1_readNumber_31 0 rfl ?_
    refine x_get (v := .int (nI i)) dX1_readNumber_32 fX1_35 f6 (by decide) rfl ?_
    have e18 := (nI_eq (b := 18) (by omega) (by decide)).mp c_13
    refine x_callV (rf' := 0) (rl' := 0) [.int (nI i)] [.ref 6] dX1_readNumber_35 vX1_225 Y_X10_valueAt f7 (by decide) rfl rfl (Nat.le_of_ble_eq_true rfl) (Nat.le_of_ble_eq_true rfl) (by decide) (by decide) (c_valueN hTk hi e18) (fun _ _ e102 => ?_)
    cases e102
    refine x_l2i dX1_readNumber_38 ?_
    rw [lN_i]
    refine x_put (fs2 := [.ref 7, .ref 12, .ref 13, .ref 14, .int nc, .int (nI i), .int (nI (nv tn tv i)), .int ft, .int fk]) dX1_readNumber_39 fX1_38 (Or.inl rfl) f6 (by decide) rfl rfl (Nat.le_of_ble_eq_true rfl) rfl (fun h103 a104 e105 l106 s107 => ?_)
    have f108 := (e105 7 (by decide)).trans f7
    have sm109 := Sm.put sm0 e105 l106 s107 (by decide)
    refine x_aload_n dX1_readNumber_42 0 rfl ?_
    refine x_get (v := .int (nI (nv tn tv i))) dX1_readNumber_43 fX1_38 a104 (by decide) rfl ?_
    refine x_iload_n dX1_readNumber_46 1 rfl ?_
    refine x_icmp_lt (tgt := 58) dX1_readNumber_47 (by decide) (fun c_47 => ?_) (fun c_47 => ?_)
    · refine x_aload_n dX1_readNumber_58 0 rfl ?_
      refine x_aload_n dX1_readNumber_59 0 rfl ?_
      refine x_get (v := .int (nI i)) dX1_readNumber_60 fX1_35 a104 (by decide) rfl ?_
      refine x_iconst (v := 2) dX1_readNumber_63 (by decide) ?_
      refine x_callV (rf' := 0) (rl' := 0) [.int (nI i), .int 2] [] dX1_readNumber_64 vX1_71 Y_X1_refuse a104 (by decide) rfl rfl (Nat.le_of_ble_eq_true rfl) (Nat.le_of_ble_eq_true rfl) (by decide) (by decide) (c_refuse a104) (fun r h110 e111 => ?_)
      obtain ⟨sm113, e0, g112⟩ := e111
      cases e0
      have sm114 := sm109.tr (sm113.wide (by decide))
      have f115 := sm113.at f108 (by decide)
      exact x_zret dX1_readNumber_67 rfl rfl ⟨sm114, by rw [show numF tn tv a b i = some (2, i) from (if_pos e18).trans (if_pos (Or.inl c_47))]; exact ⟨rfl, _, g112⟩⟩
    · refine x_aload_n dX1_readNumber_50 0 rfl ?_
      refine x_get (v := .int (nI (nv tn tv i))) dX1_readNumber_51 fX1_38 a104 (by decide) rfl ?_
      refine x_iload_n dX1_readNumber_54 2 rfl ?_
      refine x_icmp_le (tgt := 68) dX1_readNumber_55 (by decide) (fun c_55 => ?_) (fun c_55 => ?_)
      · refine x_aload_n dX1_readNumber_68 0 rfl ?_
        refine x_dup dX1_readNumber_69 rfl ?_
        refine x_get (v := .int (nI i)) dX1_readNumber_70 fX1_35 a104 (by decide) rfl ?_
        refine x_iconst (v := 1) dX1_readNumber_73 (by decide) ?_
        refine x_iaddN (a := i) (b := 1) dX1_readNumber_74 ?_
        refine x_put (fs2 := [.ref 7, .ref 12, .ref 13, .ref 14, .int nc, .int (nI (i + 1)), .int (nI (nv tn tv i)), .int ft, .int fk]) dX1_readNumber_75 fX1_35 (Or.inl rfl) a104 (by decide) rfl rfl (Nat.le_of_ble_eq_true rfl) rfl (fun h116 a117 e118 l119 s120 => ?_)
        have f121 := (e118 7 (by decide)).trans f108
        have sm122 := Sm.put sm109 e118 l119 s120 (by decide)
        refine x_iconst (v := 1) dX1_readNumber_78 (by decide) ?_
        exact x_zret dX1_readNumber_79 rfl rfl ⟨sm122, by rw [show numF tn tv a b i = none from (if_pos e18).trans (if_neg (fun z => z.elim c_47 (fun z => absurd c_55 (Int32.not_le.mpr z))))]; exact ⟨rfl, a117⟩⟩
      · refine x_aload_n dX1_readNumber_58 0 rfl ?_
        refine x_aload_n dX1_readNumber_59 0 rfl ?_
        refine x_get (v := .int (nI i)) dX1_readNumber_60 fX1_35 a104 (by decide) rfl ?_
        refine x_iconst (v := 2) dX1_readNumber_63 (by decide) ?_
        refine x_callV (rf' := 0) (rl' := 0) [.int (nI i), .int 2] [] dX1_readNumber_64 vX1_71 Y_X1_refuse a104 (by decide) rfl rfl (Nat.le_of_ble_eq_true rfl) (Nat.le_of_ble_eq_true rfl) (by decide) (by decide) (c_refuse a104) (fun r h123 e124 => ?_)
        obtain ⟨sm126, e0, g125⟩ := e124
        cases e0
        have sm127 := sm109.tr (sm126.wide (by decide))
        have f128 := sm126.at f108 (by decide)
        exact x_zret dX1_readNumber_67 rfl rfl ⟨sm127, by rw [show numF tn tv a b i = some (2, i) from (if_pos e18).trans (if_pos (Or.inr (Int32.not_le.mp c_55)))]; exact ⟨rfl, _, g125⟩⟩
  · refine x_aload_n dX1_readNumber_16 0 rfl ?_
    refine x_aload_n dX1_readNumber_17 0 rfl ?_
    refine x_get (v := .int (nI i)) dX1_readNumber_18 fX1_35 f6 (by decide) rfl ?_
    refine x_iconst (v := 1) dX1_readNumber_21 (by decide) ?_
    refine x_callV (rf' := 0) (rl' := 0) [.int (nI i), .int 1] [] dX1_readNumber_22 vX1_71 Y_X1_refuse f6 (by decide) rfl rfl (Nat.le_of_ble_eq_true rfl) (Nat.le_of_ble_eq_true rfl) (by decide) (by decide) (c_refuse f6) (fun r h129 e130 => ?_)
    obtain ⟨sm132, e0, g131⟩ := e130
    cases e0
    have sm133 := sm0.tr (sm132.wide (by decide))
    have f134 := sm132.at f7 (by decide)
    exact x_zret dX1_readNumber_25 rfl rfl ⟨sm133, by rw [show numF tn tv a b i = some (1, i) from if_neg (fun z => c_13 (by rw [z]; rfl))]; exact ⟨rfl, _, g131⟩⟩

theorem tok_lt {h : List PE} {tn N i k : Nat} {tv : Nat → Nat} (hTk : TkR h tn tv N) (hi : i ≤ N) (hk : k < 22) (e : tokF tn tv k i = none) : i + 1 ≤ N ∧ kd tn tv i = k := by
  unfold tokF at e
  by_cases q : kd tn tv i = k
  · have := (hTk.ki hi).2
    exact ⟨by omega, q⟩
  · rw [if_neg q] at e; exact absurd e (by simp)
theorem num_lt {h : List PE} {tn N i : Nat} {tv : Nat → Nat} {a b : Int32} (hTk : TkR h tn tv N) (hi : i ≤ N) (e : numF tn tv a b i = none) : i + 1 ≤ N ∧ kd tn tv i = 18 ∧ ¬ nI (nv tn tv i) < a ∧ ¬ b < nI (nv tn tv i) := by
  unfold numF at e
  by_cases q : kd tn tv i = 18
  · rw [if_pos q] at e
    have := (hTk.ki hi).2
    refine ⟨by omega, q, fun z => ?_, fun z => ?_⟩
    · rw [if_pos (Or.inl z)] at e; exact absurd e (by simp)
    · rw [if_pos (Or.inr z)] at e; exact absurd e (by simp)
  · rw [if_neg q] at e; exact absurd e (by simp)

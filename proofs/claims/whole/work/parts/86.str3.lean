section XS3
variable {Ω : Type} {F : FT Ω} {G : GT} {M : MT} {rf rl pc : Nat} {lv : List (Nat × Value)} {st : List Value} {h : List PE} {Q : Ω → Prop}
theorem x_i2c {x : Int32} (hd : decode M.2.1 pc = .ok (.i2c, 1)) (k : X F G M rf rl (pc + 1) lv (.int (x.toUInt32 % 65536).toInt32 :: st) h Q) : X F G M rf rl pc lv (.int x :: st) h Q := X.step (fun p e R s m args below meth c H locs a n ls Z C hv hr hS w => lv_i2c C.2.1 C.2.2.1 hd rfl w) k
theorem met_of_X3 {y : MethodName} {cc : ByteArray} {nL : Nat} {ret : Option FieldType} {i n : Int32} {Q1 : OT → Prop} (hp : plainFor y = true) (hl : 3 ≤ nL) (k : X (NF G) G (y, cc, nL, ret) rf rl 0 [(0, .int i), (1, .int n)] [] h Q1) :
    ∃ o : OT, Q1 o ∧ h.length ≤ o.2.length ∧ g_s h ≤ g_s o.2 ∧ ∀ v : Value, v.category = 1 → Met G.1 y [Cond.code y cc nL ret] (mk_rm rf rl h o) (va_Pc [.int i, .int n, v] (fun U => GOK G ∧ Od G U ∧ Hr G h U.heap)) (g_Q G o) (o.2.length - h.length) (g_s o.2 - g_s h) (fun q => g_B G ≤ q) := by
  obtain ⟨o, q, l1, l2, w⟩ := k
  refine ⟨o, q, l1, l2, fun v hc => va_MetF (cc := cc) (maxL := nL) (ret := ret) hp rfl ?_⟩
  intro p e s m args below meth c s₁ B hml hv
  obtain ⟨rfl, hG, hO, hH⟩ := hv
  have e3 : (lg_sl [.int i, .int n, v]).length = 3 := by
    simp only [lg_sl, List.flatMap_cons, List.flatMap_nil, List.length_append, hc]
    rfl
  have hl2 := lv_entry [.int i, .int n, v] (n := nL) (by rw [e3]; exact hl)
  have hl3 : lv_has ((lg_sl [.int i, .int n, v] ++ List.replicate (nL - (lg_sl [.int i, .int n, v]).length) Slot.unset).toArray) nL [(0, .int i), (1, .int n)] := ⟨hl2.1, hl2.2.1, fun z hz => hl2.2.2 z (by
    simp only [List.mem_cons, List.not_mem_nil, or_false] at hz
    rcases hz with rfl | rfl
    · exact List.mem_cons_self
    · exact List.mem_cons_of_mem _ List.mem_cons_self)⟩
  rw [lg_entry_eq]
  have w9 := w p e (mk_rm rf rl h o) s m [.int i, .int n, v].toArray below meth c s.heap [] h.length (g_s h) _ ⟨⟨hG, B.exec, B.bytes, B.returns, hml, findClass_of_methodNamed B.named, B.notSynchronized, (name_of_methodNamed B.named B.method).1, hO⟩, Nat.le_refl _, Nat.le_refl _, Nat.le_refl _, Nat.le_refl _, Nat.le_refl _, Nat.le_refl _, hH, va_S.rf, hl3⟩
  rw [Nat.sub_self, Nat.sub_self] at w9
  exact w9
/-- getstatic of the formatter, and the call that it goes into -/
theorem x_fmt {y : MethodName} {cc : ByteArray} {nL : Nat} {ret : Option FieldType} {i n : Int32} {rf' rl' : Nat} {Q1 : OT → Prop} (hG : GS G) (hM : M.1.cls = "java/lang/String") (hd : decode M.2.1 pc = .ok (.getstatic 1053, 3)) (hd2 : decode M.2.1 (pc + 3) = .ok (.invokestatic 1059, 3)) (hV : SL M.1.cls 1059 y) (hY : YL y cc nL ret 3) (hL : 3 ≤ nL) (hf : rf' + 1 ≤ rf) (hl : 8 + (nL + 11) + rl' ≤ rl)
    (callee : X (NF G) G (y, cc, nL, ret) rf' rl' 0 [(0, .int i), (1, .int n)] [] h Q1) (k : ∀ (r : Option Value) (h1 : List PE), Q1 (r, h1) → X F G M rf rl (pc + 6) lv r.toList h1 Q) : X F G M rf rl pc lv [.int n, .int i] h Q := by
  obtain ⟨⟨r1, h1⟩, q1, l1, l2, hMet⟩ := met_of_X3 hY.2.2.2.2.2 hL callee
  have l1 : h.length ≤ h1.length := l1
  have l2 : g_s h ≤ g_s h1 := l2
  obtain ⟨o, qo, l3, l4, w⟩ := k r1 h1 q1
  refine ⟨o, qo, Nat.le_trans l1 l3, Nat.le_trans l2 l4, fun p e R s m args below meth c H locs n0 s0 ls C => ?_⟩
  obtain ⟨c1, c2, c3, c4, c5, c6, c7, c8, c9, c10⟩ := C
  have hO := c1.2.2.2.2.2.2.2.2
  obtain ⟨v1, v2⟩ := hV
  have hown : s.vm.findClass "java/lang/String" = some m.cls := by rw [← hM]; exact c1.2.2.2.2.2.1
  have key : ∀ v : Value, v.category = 1 → W p G.1 e R s m args below meth c H locs (h.length - n0) (g_s h - s0) (F.2 o below args s n0 s0) (F0 m (pc + 3) ls [v, .int n, .int i]) := by
    intro v hc T hT X
    obtain ⟨v', st₀, t, T', L, h0, X', hL9, e1, e2, ⟨hvv, hH, hF⟩, stp⟩ := (va_runS (g := F0 m (pc + 3) ls [v, .int n, .int i]) (Ts := []) (As := [.int i, .int n, v]) (rest := []) ⟨c1.2.1, c1.2.2.1, c1.2.2.2.2.1, c1.2.2.2.2.2.1, fun _ h => nomatch h⟩ (hMet v hc) ⟨mk_CB (o1 := (r1, h1)) c1.1 hO hY v1 (by omega) (by omega), g_word c1.1 hO v2 rfl⟩
      ⟨fun _ _ _ _ q => q, fun U hU hW => ⟨rfl, c1.1, mk_old hO c9 hU hW, by rw [hU]; exact c8⟩⟩ rfl rfl c10.1 rfl (by show 2 * 0 + 0 ≤ 8; omega) hd2 ⟨show h.length - n0 + (h1.length - h.length) ≤ R.cells by omega, show g_s h - s0 + (g_s h1 - g_s h) ≤ R.slots by omega⟩) T hT X
    have hv9 : v' = r1.map (g_v G) := by
      have := hvv
      simpa using this
    subst hv9
    rw [h0.symm] at c9
    have hS2 : va_S (fun q => g_B G ≤ q) s.heap t.heap (locs ++ L) := ⟨Nat.le_trans c9.1 hF.1, fun q h1 h2 => (hF.2 q (Nat.lt_of_lt_of_le h1 c9.1) h2).trans (c9.2.1 q h1 h2), fun z hz => by
      rcases List.mem_append.mp hz with h | h
      · exact c9.2.2 z h
      · exact hL9 z h⟩
    have w9 := w p e R s m args below meth c t.heap (locs ++ L) n0 s0 ls ⟨c1, c2, c3, c4, c5, by omega, by omega, hH, hS2, c10⟩
    rw [show h1.length - n0 = h.length - n0 + (h1.length - h.length) by omega, show g_s h1 - s0 = g_s h - s0 + (g_s h1 - g_s h) by omega] at w9
    obtain ⟨t2, a1, b1⟩ := w9 T' e1 X'
    refine ⟨t2, stp t2 ?_, b1⟩
    have he : (r1.map (g_v G)).toList ++ [] = r1.toList.map (g_v G) := by cases r1 <;> simp
    rw [← he] at a1
    exact a1
  rcases gs_F hG hO with z | ⟨t, z⟩
  · exact va_gets c1.2.1 c1.2.2.1 z c9 hown (g_word c1.1 hO lk_fmt rfl) (fun _ z => z) hd (key .null rfl)
  · exact va_gets c1.2.1 c1.2.2.1 z c9 hown (g_word c1.1 hO lk_fmt rfl) (fun _ z => z) hd (key (.ref t) rfl)
end XS3

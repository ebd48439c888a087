set_option maxRecDepth 100000 in
set_option maxHeartbeats 4000000 in
theorem l_lay {G : GT} {thr tpd tdy bks siz too frm knd num sgn flt plc tld pfo thk are brk ipd bst : Int32} {wrd : Int64} {bk rec : Nat → Int32} {nw : Nat} {f la : Nat} {kept : Int32} {np : Nat} {P U : Nat → Nat} {ke pr : Nat} (WF : WFf rec f np P U ke pr) (RH : nw + 484 ≤ 10164 ∧ ∀ j, j < 484 → bk (nw + j) = rec j) (hf : f + 20 ≤ 484) (hla : la = P (np - 1)) : ∀ (m x k : Nat) (cv : Nat → Int32) (sv : Nat → Int64) (h : List PE), la + 1 - x = m → (k + 2 ≤ np ∧ (k = 0 ∨ P k < x) ∧ x ≤ P (k + 1) + 1 ∧ x ≤ la + 1) → IsCu rec f np P kept x cv → (∀ j, j < x → sv j = stoF cv j) → h[36]? = some (cO 12 (MO thr tpd tdy bks siz too frm knd num sgn flt plc wrd tld ((nI nw)) ((nI la)) pfo thk are brk ipd bst)) → h[38]? = some (cI 10164 bk) → h[41]? = some (cI 96 cv) → h[42]? = some (cJ 96 sv) → X (NF G) G mX12_lay 1 21 36 [(6, .int (nI x)), (5, .int (nI k)), (4, .int (nI np)), (3, .int (nI f)), (0, .ref 36), (2, .int kept)] [] h (fun o => o.1 = none ∧ ∃ (cv2 : Nat → Int32) (sv2 : Nat → Int64), o.2[36]? = some (cO 12 (MO thr tpd tdy bks siz too frm knd num sgn flt plc wrd tld ((nI nw)) ((nI la)) pfo thk are brk ipd bst)) ∧ o.2[41]? = some (cI 96 cv2) ∧ o.2[42]? = some (cJ 96 sv2) ∧ Sm [36, 41, 42] h o.2 ∧ IsCu rec f np P kept (la + 1) cv2 ∧ ∀ j, j ≤ la → sv2 j = stoF cv2 j) := by
  obtain ⟨W1, W2, W3, W4, W5, W6, W7, W8, W9, W10, W11, W12, W13, W14⟩ := WF
  have hPle : ∀ i, i < np → P i ≤ 95 := fun i hi => by have := mono_P W6 (a := i) (b := np - 1) (by omega) (by omega); omega
  intro m
  induction m using Nat.strongRecOn with
  | _ m ih =>
    intro x k cv sv h hm ⟨i1, i2, i3, i4⟩ hcu hsv f36 f38 f41 f42
    have sm0 : Sm [36, 41, 42] h h := Sm.rf
    have J72 : x ≤ la → ∀ k2, IsSeg P np x k2 → X (NF G) G mX12_lay 1 21 72 [(6, .int (nI x)), (5, .int (nI k2)), (4, .int (nI np)), (3, .int (nI f)), (0, .ref 36), (2, .int kept)] [] h (fun o => o.1 = none ∧ ∃ (cv2 : Nat → Int32) (sv2 : Nat → Int64), o.2[36]? = some (cO 12 (MO thr tpd tdy bks siz too frm knd num sgn flt plc wrd tld ((nI nw)) ((nI la)) pfo thk are brk ipd bst)) ∧ o.2[41]? = some (cI 96 cv2) ∧ o.2[42]? = some (cJ 96 sv2) ∧ Sm [36, 41, 42] h o.2 ∧ IsCu rec f np P kept (la + 1) cv2 ∧ ∀ j, j ≤ la → sv2 j = stoF cv2 j) := by
      intro hxl k2 ⟨s1, s2, s3⟩
      have q1 := W4 k2 (by omega)
      have q2 := W4 (k2 + 1) (by omega)
      have q3 := W6 k2 (by omega)
      have q4 := hPle (k2 + 1) (by omega)
      refine x_aload_n dX12_lay_72 4 rfl ?_
      refine x_iload_n dX12_lay_73 3 rfl ?_
      refine x_iconst (v := 3) dX12_lay_74 (by decide) ?_
      refine x_iaddN (a := f) (b := 3) dX12_lay_75 ?_
      refine x_iload dX12_lay_76 1 rfl ?_
      refine x_iaddN (a := (f + 3)) (b := k2) dX12_lay_78 ?_
      refine x_callV (rf' := 0) (rl' := 0) [.int (nI ((f + 3) + k2))] [] dX12_lay_79 vX12_217 Y_X12_of f36 (by decide) rfl rfl (Nat.le_of_ble_eq_true rfl) (Nat.le_of_ble_eq_true rfl) (by decide) (by decide) (c_ofR f36 f38 RH (by omega)) (fun _ _ e1 => ?_)
      cases e1
      refine x_istore (lv2 := [(7, .int (rec (((f + 3) + k2)))), (6, .int (nI x)), (5, .int (nI k2)), (4, .int (nI np)), (3, .int (nI f)), (0, .ref 36), (2, .int kept)]) dX12_lay_82 (by decide) rfl ?_
      refine x_aload_n dX12_lay_84 5 rfl ?_
      refine x_iload_n dX12_lay_85 4 rfl ?_
      refine x_bipush (v := 11) dX12_lay_86 (by decide) ?_
      refine x_iaddN (a := f) (b := 11) dX12_lay_88 ?_
      refine x_iload dX12_lay_89 2 rfl ?_
      refine x_iaddN (a := (f + 11)) (b := k2) dX12_lay_91 ?_
      refine x_callV (rf' := 0) (rl' := 0) [.int (nI ((f + 11) + k2))] [] dX12_lay_92 vX12_217 Y_X12_of f36 (by decide) rfl rfl (Nat.le_of_ble_eq_true rfl) (Nat.le_of_ble_eq_true rfl) (by decide) (by decide) (c_ofR f36 f38 RH (by omega)) (fun _ _ e2 => ?_)
      cases e2
      refine x_istore (lv2 := [(8, .int (rec (((f + 11) + k2)))), (7, .int (rec (((f + 3) + k2)))), (6, .int (nI x)), (5, .int (nI k2)), (4, .int (nI np)), (3, .int (nI f)), (0, .ref 36), (2, .int kept)]) dX12_lay_95 (by decide) rfl ?_
      refine x_iload dX12_lay_97 0 rfl ?_
      refine x_aload_n dX12_lay_99 6 rfl ?_
      refine x_iload_n dX12_lay_100 5 rfl ?_
      refine x_bipush (v := 12) dX12_lay_101 (by decide) ?_
      refine x_iaddN (a := f) (b := 12) dX12_lay_103 ?_
      refine x_iload dX12_lay_104 3 rfl ?_
      refine x_iaddN (a := (f + 12)) (b := k2) dX12_lay_106 ?_
      refine x_callV (rf' := 0) (rl' := 0) [.int (nI ((f + 12) + k2))] [.int (rec (((f + 11) + k2)))] dX12_lay_107 vX12_217 Y_X12_of f36 (by decide) rfl rfl (Nat.le_of_ble_eq_true rfl) (Nat.le_of_ble_eq_true rfl) (by decide) (by decide) (c_ofR f36 f38 RH (by omega)) (fun _ _ e3 => ?_)
      cases e3
      rw [show f + 12 + k2 = f + 11 + (k2 + 1) by omega]
      refine x_iload dX12_lay_110 0 rfl ?_
      refine x_isub dX12_lay_112 ?_
      refine x_iload dX12_lay_113 2 rfl ?_
      refine x_iload dX12_lay_115 1 rfl ?_
      refine x_isub dX12_lay_117 ?_
      refine x_imul dX12_lay_118 ?_
      refine x_aload_n dX12_lay_119 6 rfl ?_
      refine x_iload_n dX12_lay_120 5 rfl ?_
      refine x_iconst (v := 4) dX12_lay_121 (by decide) ?_
      refine x_iaddN (a := f) (b := 4) dX12_lay_122 ?_
      refine x_iload dX12_lay_123 3 rfl ?_
      refine x_iaddN (a := (f + 4)) (b := k2) dX12_lay_125 ?_
      refine x_callV (rf' := 0) (rl' := 0) [.int (nI ((f + 4) + k2))] [.int (((rec (f + 11 + (k2 + 1))) - (rec (((f + 11) + k2)))) * ((nI x) - (rec (((f + 3) + k2))))), .int (rec (((f + 11) + k2)))] dX12_lay_126 vX12_217 Y_X12_of f36 (by decide) rfl rfl (Nat.le_of_ble_eq_true rfl) (Nat.le_of_ble_eq_true rfl) (by decide) (by decide) (c_ofR f36 f38 RH (by omega)) (fun _ _ e4 => ?_)
      cases e4
      rw [show f + 4 + k2 = f + 3 + (k2 + 1) by omega]
      refine x_iload dX12_lay_129 1 rfl ?_
      refine x_isub dX12_lay_131 ?_
      refine x_idiv dX12_lay_132 (by rw [q1, q2]; exact nI_sub_ne0 (by omega) (by omega)) ?_
      refine x_iadd dX12_lay_133 ?_
      refine x_istore (lv2 := [(9, .int ((rec (((f + 11) + k2))) + ((((rec (f + 11 + (k2 + 1))) - (rec (((f + 11) + k2)))) * ((nI x) - (rec (((f + 3) + k2))))) / ((rec (f + 3 + (k2 + 1))) - (rec (((f + 3) + k2))))))), (8, .int (rec (((f + 11) + k2)))), (7, .int (rec (((f + 3) + k2)))), (6, .int (nI x)), (5, .int (nI k2)), (4, .int (nI np)), (3, .int (nI f)), (0, .ref 36), (2, .int kept)]) dX12_lay_134 (by decide) rfl ?_
      show X (NF G) G mX12_lay 1 21 136 [(9, .int (puR rec f k2 x)), (8, .int (rec (((f + 11) + k2)))), (7, .int (rec (((f + 3) + k2)))), (6, .int (nI x)), (5, .int (nI k2)), (4, .int (nI np)), (3, .int (nI f)), (0, .ref 36), (2, .int kept)] [] h _
      refine x_aload_n dX12_lay_136 7 rfl ?_
      refine x_get (v := .ref 41) dX12_lay_137 fX12_23 f36 (by decide) rfl ?_
      refine x_iload dX12_lay_140 3 rfl ?_
      refine x_iload dX12_lay_142 0 rfl ?_
      refine x_iload_n dX12_lay_144 8 rfl ?_
      refine x_imul dX12_lay_145 ?_
      refine x_bipush (v := 100) dX12_lay_146 (by decide) ?_
      refine x_idiv dX12_lay_148 (by decide) ?_
      refine x_iastN (i := x) dX12_lay_149 f41 (by decide) (by omega) (by decide) (fun h5 a6 e7 l8 s9 => ?_)
      have f10 := (e7 36 (by decide)).trans f36
      have f11 := (e7 38 (by decide)).trans f38
      have f12 := (e7 42 (by decide)).trans f42
      have sm13 := Sm.put sm0 e7 l8 s9 (by decide)
      refine x_aload_n dX12_lay_150 7 rfl ?_
      refine x_get (v := .ref 42) dX12_lay_151 fX12_26 f10 (by decide) rfl ?_
      refine x_iload dX12_lay_154 3 rfl ?_
      refine x_iload dX12_lay_156 3 rfl ?_
      refine x_if_neN (tgt := 165) (a := x) (by omega) dX12_lay_158 (by decide) (fun c_158 => ?_) (fun c_158 => ?_)
      · refine x_aload_n dX12_lay_165 7 rfl ?_
        refine x_get (v := .ref 42) dX12_lay_166 fX12_26 f10 (by decide) rfl ?_
        refine x_iload dX12_lay_169 3 rfl ?_
        refine x_iconst (v := 1) dX12_lay_171 (by decide) ?_
        refine x_isubN (a := x) (b := 1) (by omega) dX12_lay_172 ?_
        refine x_laldN (i := (x - 1)) dX12_lay_173 f12 (by decide) (by omega) (by decide) ?_
        refine x_aload_n dX12_lay_174 7 rfl ?_
        refine x_get (v := .ref 41) dX12_lay_175 fX12_23 f10 (by decide) rfl ?_
        refine x_iload dX12_lay_178 3 rfl ?_
        refine x_iconst (v := 1) dX12_lay_180 (by decide) ?_
        refine x_isubN (a := x) (b := 1) (by omega) dX12_lay_181 ?_
        refine x_ialdN (i := (x - 1)) dX12_lay_182 a6 (by decide) (by omega) (by decide) ?_
        refine x_i2l dX12_lay_183 ?_
        refine x_ladd dX12_lay_184 ?_
        refine x_aload_n dX12_lay_185 7 rfl ?_
        refine x_get (v := .ref 41) dX12_lay_186 fX12_23 f10 (by decide) rfl ?_
        refine x_iload dX12_lay_189 3 rfl ?_
        refine x_ialdN (i := x) dX12_lay_191 a6 (by decide) (by omega) (by decide) ?_
        refine x_i2l dX12_lay_192 ?_
        refine x_ladd dX12_lay_193 ?_
        refine x_lastN (i := x) dX12_lay_194 f12 (by decide) (by omega) (by decide) (fun h14 a15 e16 l17 s18 => ?_)
        have f19 := (e16 36 (by decide)).trans f10
        have f20 := (e16 38 (by decide)).trans f11
        have f21 := (e16 41 (by decide)).trans a6
        have sm22 := Sm.put sm13 e16 l17 s18 (by decide)
        refine x_iincN (lv2 := [(6, .int (nI (x + 1))), (9, .int (puR rec f k2 x)), (8, .int (rec (((f + 11) + k2)))), (7, .int (rec (((f + 3) + k2)))), (5, .int (nI k2)), (4, .int (nI np)), (3, .int (nI f)), (0, .ref 36), (2, .int kept)]) dX12_lay_195 3 rfl (by decide) rfl ?_
        refine x_goto (tgt := 36) dX12_lay_198 (by decide) ?_
        refine x_perm [0, 4, 5, 6, 7, 8] rfl ?_
        refine (ih (la + 1 - (x + 1)) (by omega) (x + 1) k2 (upd cv x (puR rec f k2 x * kept / 100)) (vp_updL sv x ((((sv ((x - 1))) + ((((upd cv x ((((puR rec f k2 x) * kept) / 100)))) ((x - 1)))).toInt64) + ((((upd cv x ((((puR rec f k2 x) * kept) / 100)))) x)).toInt64))) h14 rfl ⟨s1, by omega, by omega, by omega⟩ ?_ ?_ f19 f20 f21 a15).weaken (fun o ho => ?_)
        · intro j hj
          by_cases e : j = x
          · subst e; exact ⟨k2, ⟨s1, s2, s3⟩, pk_us⟩
          · rw [pk_un e]; exact hcu j (by omega)
        · intro j hj
          by_cases e : j = x
          · subst e; rw [pk_uLs, show j = (j - 1) + 1 by omega, stoF, show j - 1 + 1 - 1 = j - 1 by omega, show j - 1 + 1 = j by omega, stoF_upd (by omega), hsv (j - 1) (by omega)]
          · rw [pk_uLn e, stoF_upd (by omega)]; exact hsv j (by omega)
        · obtain ⟨o1, cv2, sv2, o2, o3, o4, o5, o6⟩ := ho
          exact ⟨o1, cv2, sv2, o2, o3, o4, sm22.tr o5, o6⟩
      · refine x_lconst (v := 0) dX12_lay_161 (by decide) ?_
        refine x_goto (tgt := 194) dX12_lay_162 (by decide) ?_
        refine x_lastN (i := x) dX12_lay_194 f12 (by decide) (by omega) (by decide) (fun h23 a24 e25 l26 s27 => ?_)
        have f28 := (e25 36 (by decide)).trans f10
        have f29 := (e25 38 (by decide)).trans f11
        have f30 := (e25 41 (by decide)).trans a6
        have sm31 := Sm.put sm13 e25 l26 s27 (by decide)
        refine x_iincN (lv2 := [(6, .int (nI (x + 1))), (9, .int (puR rec f k2 x)), (8, .int (rec (((f + 11) + k2)))), (7, .int (rec (((f + 3) + k2)))), (5, .int (nI k2)), (4, .int (nI np)), (3, .int (nI f)), (0, .ref 36), (2, .int kept)]) dX12_lay_195 3 rfl (by decide) rfl ?_
        refine x_goto (tgt := 36) dX12_lay_198 (by decide) ?_
        refine x_perm [0, 4, 5, 6, 7, 8] rfl ?_
        refine (ih (la + 1 - (x + 1)) (by omega) (x + 1) k2 (upd cv x (puR rec f k2 x * kept / 100)) (vp_updL sv x 0) h23 rfl ⟨s1, by omega, by omega, by omega⟩ ?_ ?_ f28 f29 f30 a24).weaken (fun o ho => ?_)
        · intro j hj
          by_cases e : j = x
          · subst e; exact ⟨k2, ⟨s1, s2, s3⟩, pk_us⟩
          · rw [pk_un e]; exact hcu j (by omega)
        · intro j hj
          by_cases e : j = x
          · subst e; rw [pk_uLs, c_158]; rfl
          · rw [pk_uLn e, stoF_upd (by omega)]; exact hsv j (by omega)
        · obtain ⟨o1, cv2, sv2, o2, o3, o4, o5, o6⟩ := ho
          exact ⟨o1, cv2, sv2, o2, o3, o4, sm31.tr o5, o6⟩
    have q0 := hPle (k + 1) (by omega)
    have q9 := hPle (np - 1) (by omega)
    refine x_iload dX12_lay_36 0 rfl ?_
    refine x_aload_n dX12_lay_38 4 rfl ?_
    refine x_get (v := .int (nI la)) dX12_lay_39 fX12_220 f36 (by decide) rfl ?_
    refine x_icmp_gtN (tgt := 201) (a := x) (b := la) (by omega) (by omega) dX12_lay_42 (by decide) (fun c_42 => ?_) (fun c_42 => ?_)
    · exact x_vret dX12_lay_201 rfl ⟨rfl, cv, sv, f36, f41, f42, sm0, by rw [show la + 1 = x by omega]; exact hcu, fun j hj => hsv j (by omega)⟩
    · refine x_iload dX12_lay_45 1 rfl ?_
      refine x_iload dX12_lay_47 2 rfl ?_
      refine x_iconst (v := 2) dX12_lay_49 (by decide) ?_
      refine x_isubN (a := np) (b := 2) (by omega) dX12_lay_50 ?_
      refine x_icmp_geN (tgt := 72) (a := k) (b := (np - 2)) (by omega) (by omega) dX12_lay_51 (by decide) (fun c_51 => ?_) (fun c_51 => ?_)
      · refine x_perm [0, 1, 2, 3, 4, 5] rfl ?_
        have e9 : k + 1 = np - 1 := by omega
        exact J72 (by omega) k ⟨by omega, by rw [e9]; omega, i2⟩
      · refine x_iload dX12_lay_54 0 rfl ?_
        refine x_aload_n dX12_lay_56 4 rfl ?_
        refine x_iload_n dX12_lay_57 3 rfl ?_
        refine x_iconst (v := 4) dX12_lay_58 (by decide) ?_
        refine x_iaddN (a := f) (b := 4) dX12_lay_59 ?_
        refine x_iload dX12_lay_60 1 rfl ?_
        refine x_iaddN (a := (f + 4)) (b := k) dX12_lay_62 ?_
        refine x_callV (rf' := 0) (rl' := 0) [.int (nI ((f + 4) + k))] [.int (nI x)] dX12_lay_63 vX12_217 Y_X12_of f36 (by decide) rfl rfl (Nat.le_of_ble_eq_true rfl) (Nat.le_of_ble_eq_true rfl) (by decide) (by decide) (c_ofR f36 f38 RH (by omega)) (fun _ _ e1 => ?_)
        cases e1
        rw [show f + 4 + k = f + 3 + (k + 1) by omega, W4 (k + 1) (by omega)]
        refine x_icmp_leN (tgt := 72) (a := x) (b := (P (k + 1))) (by omega) (by omega) dX12_lay_66 (by decide) (fun c_66 => ?_) (fun c_66 => ?_)
        · refine x_perm [0, 1, 2, 3, 4, 5] rfl ?_
          exact J72 (by omega) k ⟨by omega, c_66, i2⟩
        · refine x_iincN (lv2 := [(5, .int (nI (k + 1))), (6, .int (nI x)), (4, .int (nI np)), (3, .int (nI f)), (0, .ref 36), (2, .int kept)]) dX12_lay_69 1 rfl (by decide) rfl ?_
          refine x_perm [1, 0, 2, 3, 4, 5] rfl ?_
          have e8 := W6 (k + 1) (by omega)
          exact J72 (by omega) (k + 1) ⟨by omega, by omega, Or.inr (by omega)⟩

set_option maxRecDepth 100000 in
set_option maxHeartbeats 4000000 in
theorem c_lay {G : GT} {h : List PE} {thr tpd tdy bks siz too frm knd num sgn flt plc tld lst pfo thk are brk ipd bst : Int32} {wrd : Int64} {bk rec : Nat → Int32} {nw : Nat} {f kf la : Nat} {kept : Int32} {cv : Nat → Int32} {sv : Nat → Int64} (f36 : h[36]? = some (cO 12 (MO thr tpd tdy bks siz too frm knd num sgn flt plc wrd tld ((nI nw)) lst pfo thk are brk ipd bst))) (f38 : h[38]? = some (cI 10164 bk)) (f41 : h[41]? = some (cI 96 cv)) (f42 : h[42]? = some (cJ 96 sv)) {np : Nat} {P U : Nat → Nat} {ke pr : Nat} (WF : WFf rec f np P U ke pr) (RH : nw + 484 ≤ 10164 ∧ ∀ j, j < 484 → bk (nw + j) = rec j) (hk8 : kf < 8) (hf : f = 4 + 20 * kf) (hla : la = P (np - 1)) : CT G mX12_lay 1 21 [.ref 36, .int (nI kf), .int kept] h (fun o => o.1 = none ∧ ∃ (cv2 : Nat → Int32) (sv2 : Nat → Int64), o.2[36]? = some (cO 12 (MO thr tpd tdy bks siz too frm knd num sgn flt plc wrd tld ((nI nw)) ((nI la)) pfo thk are brk ipd bst)) ∧ o.2[41]? = some (cI 96 cv2) ∧ o.2[42]? = some (cJ 96 sv2) ∧ Sm [36, 41, 42] h o.2 ∧ IsCu rec f np P kept (la + 1) cv2 ∧ ∀ j, j ≤ la → sv2 j = stoF cv2 j) := by
  have sm0 : Sm [36, 41, 42] h h := Sm.rf
  have w2 := WF.2.1
  have w3 := WF.2.2.1
  have w7 := WF.2.2.2.2.2.2.1
  have hL : rec (f + 3 + np - 1) = nI la := by rw [show f + 3 + np - 1 = f + 3 + (np - 1) by omega, hla]; exact WF.2.2.2.1 (np - 1) (by omega)
  show X (NF G) G mX12_lay 1 21 0 [(0, .ref 36), (1, .int (nI kf)), (2, .int kept)] [] h _
  refine x_iconst (v := 4) dX12_lay_0 (by decide) ?_
  refine x_bipush (v := 20) dX12_lay_1 (by decide) ?_
  refine x_iload_n dX12_lay_3 1 rfl ?_
  refine x_imulN (a := 20) (b := kf) dX12_lay_4 ?_
  refine x_iaddN (a := 4) (b := (20 * kf)) dX12_lay_5 ?_
  refine x_istore_n (lv2 := [(3, .int (nI (4 + (20 * kf)))), (0, .ref 36), (1, .int (nI kf)), (2, .int kept)]) dX12_lay_6 (by decide) rfl ?_
  rw [← hf]
  refine x_aload_n dX12_lay_7 1 rfl ?_
  refine x_iload_n dX12_lay_8 0 rfl ?_
  refine x_callV (rf' := 0) (rl' := 0) [.int (nI f)] [] dX12_lay_9 vX12_217 Y_X12_of f36 (by decide) rfl rfl (Nat.le_of_ble_eq_true rfl) (Nat.le_of_ble_eq_true rfl) (by decide) (by decide) (c_ofR f36 f38 RH (by omega)) (fun _ _ e1 => ?_)
  cases e1
  rw [WF.1]
  refine x_istore (lv2 := [(4, .int (nI np)), (3, .int (nI f)), (0, .ref 36), (1, .int (nI kf)), (2, .int kept)]) dX12_lay_12 (by decide) rfl ?_
  refine x_aload_n dX12_lay_14 2 rfl ?_
  refine x_aload_n dX12_lay_15 2 rfl ?_
  refine x_iload_n dX12_lay_16 1 rfl ?_
  refine x_iconst (v := 3) dX12_lay_17 (by decide) ?_
  refine x_iaddN (a := f) (b := 3) dX12_lay_18 ?_
  refine x_iload dX12_lay_19 0 rfl ?_
  refine x_iaddN (a := (f + 3)) (b := np) dX12_lay_21 ?_
  refine x_iconst (v := 1) dX12_lay_22 (by decide) ?_
  refine x_isubN (a := ((f + 3) + np)) (b := 1) (by omega) dX12_lay_23 ?_
  refine x_callV (rf' := 0) (rl' := 0) [.int (nI (((f + 3) + np) - 1))] [.ref 36] dX12_lay_24 vX12_217 Y_X12_of f36 (by decide) rfl rfl (Nat.le_of_ble_eq_true rfl) (Nat.le_of_ble_eq_true rfl) (by decide) (by decide) (c_ofR f36 f38 RH (by omega)) (fun _ _ e2 => ?_)
  cases e2
  rw [hL]
  refine x_put (fs2 := (MO thr tpd tdy bks siz too frm knd num sgn flt plc wrd tld ((nI nw)) ((nI la)) pfo thk are brk ipd bst)) dX12_lay_27 fX12_220 (Or.inl rfl) f36 (by decide) rfl rfl (Nat.le_of_ble_eq_true rfl) rfl (fun h3 a4 e5 l6 s7 => ?_)
  have f8 := (e5 38 (by decide)).trans f38
  have f9 := (e5 41 (by decide)).trans f41
  have f10 := (e5 42 (by decide)).trans f42
  have sm11 := Sm.put sm0 e5 l6 s7 (by decide)
  refine x_iconst (v := 0) dX12_lay_30 (by decide) ?_
  refine x_istore (lv2 := [(5, .int 0), (4, .int (nI np)), (3, .int (nI f)), (0, .ref 36), (1, .int (nI kf)), (2, .int kept)]) dX12_lay_31 (by decide) rfl ?_
  refine x_iconst (v := 0) dX12_lay_33 (by decide) ?_
  refine x_istore (lv2 := [(6, .int 0), (5, .int 0), (4, .int (nI np)), (3, .int (nI f)), (0, .ref 36), (1, .int (nI kf)), (2, .int kept)]) dX12_lay_34 (by decide) rfl ?_
  refine x_perm [0, 1, 2, 3, 4, 6] rfl ?_
  refine (l_lay WF RH (by omega) hla (la + 1) 0 0 cv sv h3 rfl ⟨by omega, Or.inl rfl, by omega, by omega⟩ (fun j hj => absurd hj (by omega)) (fun j hj => absurd hj (by omega)) a4 f8 f9 f10).weaken (fun o ho => ?_)
  obtain ⟨o1, cv2, sv2, o2, o3, o4, o5, o6⟩ := ho
  exact ⟨o1, cv2, sv2, o2, o3, o4, sm11.tr o5, o6⟩

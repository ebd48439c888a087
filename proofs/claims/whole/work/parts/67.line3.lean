theorem BkP.foam {h : List PE} {R : Nat → Int32} {c : CN} {a : Nat} {Q : QQ} {Z : ZZ} {q np : Nat} (x : BkP h R c a Q Z) (hn : c.1 < 8) (w : ∀ k, k < c.2.1 → WFt R (164 + 24 * k) c.1) (r0 : R (4 + 20 * c.1) = nI np) (h8 : np ≤ 8) (t : FoamAt h R (4 + 20 * c.1) np q) : BkP h R (c.1 + 1, c.2.1, c.2.2.1, c.2.2.2) a (va_up Q.1 c.1 q, Q.2.1, Q.2.2.1, Q.2.2.2) (va_up Z.1 c.1 (some q), Z.2.1, Z.2.2.1, Z.2.2.2) := by
  obtain ⟨p1, p2, p3, p4, p5⟩ := x
  refine ⟨fun k hk => ?_, fun k hk => ⟨(p2 k hk).1, (p2 k hk).2.1, ?_⟩, p3, p4, p5⟩
  · have hk : k < c.1 + 1 := hk
    show va_up Z.1 c.1 (some q) k = some (va_up Q.1 c.1 q k) ∧ ∀ np, R (4 + 20 * k) = nI np → np ≤ 8 → FoamAt h R (4 + 20 * k) np (va_up Q.1 c.1 q k)
    by_cases e : k = c.1
    · subst e
      rw [va_up_s, va_up_s]
      refine ⟨rfl, fun np' h1 h2 => ?_⟩
      have e2 := (nI_eq (by omega) (by omega)).mp (r0.symm.trans h1)
      subst e2
      exact t
    · rw [va_up_n e, va_up_n e]; exact p1 k (by omega)
  · obtain ⟨y1, y2, y3, y4, b1, b2, b3, b4, b5, b6, b7⟩ := (p2 k hk).2.2
    refine ⟨y1, y2, y3, y4, b1, b2, b3, b4, b5, b6, fun sd hs => ?_⟩
    obtain ⟨c1, c2, c3⟩ := b7 sd hs
    refine ⟨c1, fun k' hk' e => ?_, c3⟩
    show y2 sd = some (va_up Q.1 c.1 q k')
    rcases (w k hk).2.2.2 sd hs with z | ⟨k0, hk0, z, -⟩
    · rw [z] at e; exact absurd e.symm (nI_ne0 (by omega) (by omega))
    · rw [z] at e
      have e2 := (nI_eq (by omega) (by omega)).mp e
      rw [va_up_n (by omega)]
      exact c2 k' hk' (by rw [z, show k' = k0 by omega])

set_option maxRecDepth 100000 in
set_option maxHeartbeats 4000000 in
theorem c_readPoint {G : GT} {h : List PE} {tn N j k q : Nat} {tv : Nat → Nat} {g1 g2 : Nat → Int32} {nc v ft fk : Int32} (hTk : TkR h tn tv N) (hi : j + 3 * k ≤ N) (hk : k ≤ 8) (hq : 51 ≤ q) (hg : ∀ m, m < k → g1 m = nI (nv tn tv (j + 3 * m)) ∧ g2 m = nI (nv tn tv (j + 3 * m + 2))) (f6 : h[6]? = some (cO 1 [.ref 7, .ref 12, .ref 13, .ref 14, .int nc, .int (nI (j + 3 * k)), .int v, .int ft, .int fk])) (fq : h[q]? = some (cO 6 [.ref (q + 1), .ref (q + 2), .int (nI k), .int 0, .int 0])) (f1 : h[(q + 1)]? = some (cI 8 g1)) (f2 : h[(q + 2)]? = some (cI 8 g2)) : CT G mX1_readPoint 2 44 [.ref 6, .ref q] h (fun o => Sm [6, q, q + 1, q + 2] h o.2 ∧ match ptF tn tv j k with | none => o.1 = some (.int 1) ∧ k < 8 ∧ j + 3 * k + 3 ≤ N ∧ ∃ v2 : Int32, o.2[6]? = some (cO 1 [.ref 7, .ref 12, .ref 13, .ref 14, .int nc, .int (nI (j + 3 * k + 3)), .int v2, .int ft, .int fk]) ∧ o.2[q]? = some (cO 6 [.ref (q + 1), .ref (q + 2), .int (nI (k + 1)), .int 0, .int 0]) ∧ o.2[q + 1]? = some (cI 8 (upd g1 k (nI (nv tn tv (j + 3 * k))))) ∧ o.2[q + 2]? = some (cI 8 (upd g2 k (nI (nv tn tv (j + 3 * k + 2))))) | some f => o.1 = some (.int 0) ∧ Bd o.2 f) := by
  have sm0 : Sm [6, q, q + 1, q + 2] h h := Sm.rf
  have eL : (if k = 0 then 0 else g1 (k - 1) + 1) = ptL tn tv j k := by
    unfold ptL
    by_cases e : k = 0
    · rw [if_pos e, if_pos e]
    · rw [if_neg e, if_neg e, (hg (k - 1) (by omega)).1]
  have eU : (if k = 0 then 0 else g2 (k - 1)) = ptU tn tv j k := by
    unfold ptU
    by_cases e : k = 0
    · rw [if_pos e, if_pos e]
    · rw [if_neg e, if_neg e, (hg (k - 1) (by omega)).2]
  show X (NF G) G mX1_readPoint 2 44 0 [(0, .ref 6), (1, .ref q)] [] h _
  refine x_aload_n dX1_readPoint_0 0 rfl ?_
  refine x_aload_n dX1_readPoint_1 1 rfl ?_
  refine x_callV (rf' := 0) (rl' := 0) [] [.ref 6] dX1_readPoint_2 vX1_127 Y_X6_leastPercent fq (by omega) rfl rfl (Nat.le_of_ble_eq_true rfl) (Nat.le_of_ble_eq_true rfl) (by decide) (by decide) (c_leastPercent fq f1 (by omega) (by omega) hk) (fun _ _ e101 => ?_)
  cases e101
  rw [show (if k = 0 then 0 else g1 (k - 1) + 1) = ptL tn tv j k from eL]
  refine x_aload_n dX1_readPoint_5 1 rfl ?_
  refine x_get (v := .int (nI k)) dX1_readPoint_6 fX1_131 fq (by omega) rfl ?_
  refine x_if_neN (tgt := 16) (a := k) (by omega) dX1_readPoint_9 (by decide) (fun c_9 => ?_) (fun c_9 => ?_)
  · refine x_bipush (v := 95) dX1_readPoint_16 (by decide) ?_
    refine x_callV (rf' := 1) (rl' := 22) [.int (ptL tn tv j k), .int 95] [] dX1_readPoint_18 vX1_134 Y_X1_readNumber f6 (by decide) rfl rfl (Nat.le_of_ble_eq_true rfl) (Nat.le_of_ble_eq_true rfl) (by decide) (by decide) (c_readNumber (a := (ptL tn tv j k)) (b := 95) (i := (j + 3 * k)) (hTk.sm sm0 (by simp; omega)) (by omega) f6) (fun r h102 e103 => ?_)
    obtain ⟨sm106, e103⟩ := e103
    have sm106 : Sm [6] h h102 := sm106
    have f108 := sm106.at fq (by first | decide | (simp; omega) | simp | omega)
    have f109 := sm106.at f1 (by first | decide | (simp; omega) | simp | omega)
    have f110 := sm106.at f2 (by first | decide | (simp; omega) | simp | omega)
    have sm111 := sm0.tr (sm106.wide (by simp))
    cases q104 : numF tn tv ((ptL tn tv j k)) 95 (j + 3 * k) with
    | none =>
      rw [q104] at e103
      obtain ⟨e0, g107⟩ := e103
      cases e0
      have g107 : h102[6]? = some (cO 1 [.ref 7, .ref 12, .ref 13, .ref 14, .int nc, .int (nI ((j + 3 * k) + 1)), .int (nI (nv tn tv (j + 3 * k))), .int ft, .int fk]) := g107
      obtain ⟨hin112, kkq104⟩ := num_lt hTk (by omega) q104
      refine x_if_ne (tgt := 26) dX1_readPoint_21 (by decide) (fun c_21 => ?_) (fun c_21 => absurd c_21 (by decide))
      refine x_aload_n dX1_readPoint_26 1 rfl ?_
      refine x_get (v := .int (nI k)) dX1_readPoint_27 fX1_131 f108 (by omega) rfl ?_
      refine x_bipush (v := 8) dX1_readPoint_30 (by decide) ?_
      refine x_icmp_ltN (tgt := 47) (a := k) (b := 8) (by omega) (by omega) dX1_readPoint_32 (by decide) (fun c_32 => ?_) (fun c_32 => ?_)
      · refine x_aload_n dX1_readPoint_47 0 rfl ?_
        refine x_get (v := .int (nI (nv tn tv (j + 3 * k)))) dX1_readPoint_48 fX1_38 g107 (by decide) rfl ?_
        refine x_istore_n (lv2 := [(2, .int (nI (nv tn tv (j + 3 * k)))), (0, .ref 6), (1, .ref q)]) dX1_readPoint_51 (by decide) rfl ?_
        refine x_aload_n dX1_readPoint_52 1 rfl ?_
        refine x_bipush (v := 20) dX1_readPoint_53 (by decide) ?_
        refine x_callV (rf' := 1) (rl' := 22) [.int 20] [] dX1_readPoint_55 vX1_65 Y_X1_readToken g107 (by decide) rfl rfl (Nat.le_of_ble_eq_true rfl) (Nat.le_of_ble_eq_true rfl) (by decide) (by decide) (c_readToken (k := 20) (i := ((j + 3 * k) + 1)) (hTk.sm sm111 (by simp; omega)) (by omega) (by omega) g107) (fun r h113 e114 => ?_)
        obtain ⟨sm117, e114⟩ := e114
        have sm117 : Sm [6] h102 h113 := sm117
        have f119 := sm117.at f108 (by first | decide | (simp; omega) | simp | omega)
        have f120 := sm117.at f109 (by first | decide | (simp; omega) | simp | omega)
        have f121 := sm117.at f110 (by first | decide | (simp; omega) | simp | omega)
        have sm122 := sm111.tr (sm117.wide (by simp))
        cases q115 : tokF tn tv 20 ((j + 3 * k) + 1) with
        | none =>
          rw [q115] at e114
          obtain ⟨e0, g118⟩ := e114
          cases e0
          have g118 : h113[6]? = some (cO 1 [.ref 7, .ref 12, .ref 13, .ref 14, .int nc, .int (nI ((j + 3 * k) + 2)), .int (nI (nv tn tv (j + 3 * k))), .int ft, .int fk]) := g118
          obtain ⟨hin123, kkq115⟩ := tok_lt hTk (by omega) (by omega) q115
          refine x_if_eq (tgt := 74) dX1_readPoint_58 (by decide) (fun c_58 => absurd c_58 (by decide)) (fun c_58 => ?_)
          refine x_aload_n dX1_readPoint_61 1 rfl ?_
          refine x_aload_n dX1_readPoint_62 2 rfl ?_
          refine x_callV (rf' := 0) (rl' := 0) [] [.ref 6] dX1_readPoint_63 vX1_137 Y_X6_leastPush f119 (by omega) rfl rfl (Nat.le_of_ble_eq_true rfl) (Nat.le_of_ble_eq_true rfl) (by decide) (by decide) (c_leastPush f119 f121 (by omega) (by omega) hk) (fun _ _ e124 => ?_)
          cases e124
          rw [show (if k = 0 then 0 else g2 (k - 1)) = ptU tn tv j k from eU]
          refine x_ldc (v := 60000) dX1_readPoint_66 kX1_140 ?_
          refine x_callV (rf' := 1) (rl' := 22) [.int (ptU tn tv j k), .int 60000] [] dX1_readPoint_68 vX1_134 Y_X1_readNumber g118 (by decide) rfl rfl (Nat.le_of_ble_eq_true rfl) (Nat.le_of_ble_eq_true rfl) (by decide) (by decide) (c_readNumber (a := (ptU tn tv j k)) (b := 60000) (i := ((j + 3 * k) + 2)) (hTk.sm sm122 (by simp; omega)) (by omega) g118) (fun r h125 e126 => ?_)
          obtain ⟨sm129, e126⟩ := e126
          have sm129 : Sm [6] h113 h125 := sm129
          have f131 := sm129.at f119 (by first | decide | (simp; omega) | simp | omega)
          have f132 := sm129.at f120 (by first | decide | (simp; omega) | simp | omega)
          have f133 := sm129.at f121 (by first | decide | (simp; omega) | simp | omega)
          have sm134 := sm122.tr (sm129.wide (by simp))
          cases q127 : numF tn tv ((ptU tn tv j k)) 60000 ((j + 3 * k) + 2) with
          | none =>
            rw [q127] at e126
            obtain ⟨e0, g130⟩ := e126
            cases e0
            have g130 : h125[6]? = some (cO 1 [.ref 7, .ref 12, .ref 13, .ref 14, .int nc, .int (nI ((j + 3 * k) + 3)), .int (nI (nv tn tv ((j + 3 * k) + 2))), .int ft, .int fk]) := g130
            obtain ⟨hin135, kkq127⟩ := num_lt hTk (by omega) q127
            refine x_if_ne (tgt := 76) dX1_readPoint_71 (by decide) (fun c_71 => ?_) (fun c_71 => absurd c_71 (by decide))
            refine x_aload_n dX1_readPoint_76 2 rfl ?_
            refine x_iload_n dX1_readPoint_77 0 rfl ?_
            refine x_aload_n dX1_readPoint_78 1 rfl ?_
            refine x_get (v := .int (nI (nv tn tv ((j + 3 * k) + 2)))) dX1_readPoint_79 fX1_38 g130 (by decide) rfl ?_
            refine x_callV (rf' := 0) (rl' := 0) [.int (nI (nv tn tv (j + 3 * k))), .int (nI (nv tn tv ((j + 3 * k) + 2)))] [] dX1_readPoint_82 vX1_141 Y_X6_addPoint f131 (by omega) rfl rfl (Nat.le_of_ble_eq_true rfl) (Nat.le_of_ble_eq_true rfl) (by decide) (by decide) (c_addPoint (by omega) (by omega) f131 f132 f133) (fun r h136 e137 => ?_)
            obtain ⟨e0, sm138, g139, g140, g141⟩ := e137
            cases e0
            have sm138 : Sm [q, q + 1, q + 2] h125 h136 := sm138
            have sm142 := sm134.tr (sm138.wide (by simp))
            have f143 := sm138.at g130 (by simp; omega)
            refine x_iconst (v := 1) dX1_readPoint_85 (by decide) ?_
            exact x_zret dX1_readPoint_86 rfl rfl ⟨sm142, by rw [show ptF tn tv j k = none by unfold ptF; rw [if_neg (show ¬ k = 0 by omega), q104, if_neg (by omega), q115, q127]; rfl]; exact ⟨rfl, by omega, by omega, _, f143, g139, g140, g141⟩⟩
          | some fl128 =>
            rw [q127] at e126
            obtain ⟨e0, v144, g130⟩ := e126
            cases e0
            refine x_if_ne (tgt := 76) dX1_readPoint_71 (by decide) (fun c_71 => absurd (by decide) c_71) (fun c_71 => ?_)
            refine x_iconst (v := 0) dX1_readPoint_74 (by decide) ?_
            exact x_zret dX1_readPoint_75 rfl rfl ⟨sm134, by rw [show ptF tn tv j k = some fl128 by unfold ptF; rw [if_neg (show ¬ k = 0 by omega), q104, if_neg (by omega), q115, q127]; rfl]; exact ⟨rfl, _, _, _, g130⟩⟩
        | some fl116 =>
          rw [q115] at e114
          obtain ⟨e0, g118⟩ := e114
          cases e0
          refine x_if_eq (tgt := 74) dX1_readPoint_58 (by decide) (fun c_58 => ?_) (fun c_58 => absurd (by decide) c_58)
          refine x_iconst (v := 0) dX1_readPoint_74 (by decide) ?_
          exact x_zret dX1_readPoint_75 rfl rfl ⟨sm122, by rw [show ptF tn tv j k = some fl116 by unfold ptF; rw [if_neg (show ¬ k = 0 by omega), q104, if_neg (by omega), q115]; rfl]; exact ⟨rfl, _, _, _, g118⟩⟩
      · refine x_aload_n dX1_readPoint_35 0 rfl ?_
        refine x_aload_n dX1_readPoint_36 0 rfl ?_
        refine x_get (v := .int (nI ((j + 3 * k) + 1))) dX1_readPoint_37 fX1_35 g107 (by decide) rfl ?_
        refine x_iconst (v := 1) dX1_readPoint_40 (by decide) ?_
        refine x_isubN (a := ((j + 3 * k) + 1)) (b := 1) (by omega) dX1_readPoint_41 ?_
        refine x_iconst (v := 4) dX1_readPoint_42 (by decide) ?_
        refine x_callV (rf' := 0) (rl' := 0) [.int (nI (((j + 3 * k) + 1) - 1)), .int 4] [] dX1_readPoint_43 vX1_71 Y_X1_refuse g107 (by decide) rfl rfl (Nat.le_of_ble_eq_true rfl) (Nat.le_of_ble_eq_true rfl) (by decide) (by decide) (c_refuse g107) (fun r h147 e148 => ?_)
        obtain ⟨sm150, e0, g149⟩ := e148
        cases e0
        have sm150 : Sm [6] h102 h147 := sm150
        have sm151 := sm111.tr (sm150.wide (by simp))
        have f152 := sm150.at f108 (by first | decide | (simp; omega) | simp | omega)
        have f153 := sm150.at f109 (by first | decide | (simp; omega) | simp | omega)
        have f154 := sm150.at f110 (by first | decide | (simp; omega) | simp | omega)
        exact x_zret dX1_readPoint_46 rfl rfl ⟨sm151, by rw [show ptF tn tv j k = some (4, j + 3 * k) by unfold ptF; rw [if_neg (show ¬ k = 0 by omega), q104, if_pos (by omega)]; rfl]; exact ⟨rfl, _, _, _, g149⟩⟩
    | some fl105 =>
      rw [q104] at e103
      obtain ⟨e0, v155, g107⟩ := e103
      cases e0
      refine x_if_ne (tgt := 26) dX1_readPoint_21 (by decide) (fun c_21 => absurd (by decide) c_21) (fun c_21 => ?_)
      refine x_iconst (v := 0) dX1_readPoint_24 (by decide) ?_
      exact x_zret dX1_readPoint_25 rfl rfl ⟨sm111, by rw [show ptF tn tv j k = some fl105 by unfold ptF; rw [if_neg (show ¬ k = 0 by omega), q104]; rfl]; exact ⟨rfl, _, _, _, g107⟩⟩
  · refine x_iconst (v := 0) dX1_readPoint_12 (by decide) ?_
    refine x_goto (tgt := 18) dX1_readPoint_13 (by decide) ?_
    refine x_callV (rf' := 1) (rl' := 22) [.int (ptL tn tv j k), .int 0] [] dX1_readPoint_18 vX1_134 Y_X1_readNumber f6 (by decide) rfl rfl (Nat.le_of_ble_eq_true rfl) (Nat.le_of_ble_eq_true rfl) (by decide) (by decide) (c_readNumber (a := (ptL tn tv j k)) (b := 0) (i := (j + 3 * k)) (hTk.sm sm0 (by simp; omega)) (by omega) f6) (fun r h157 e158 => ?_)
    obtain ⟨sm161, e158⟩ := e158
    have sm161 : Sm [6] h h157 := sm161
    have f163 := sm161.at fq (by first | decide | (simp; omega) | simp | omega)
    have f164 := sm161.at f1 (by first | decide | (simp; omega) | simp | omega)
    have f165 := sm161.at f2 (by first | decide | (simp; omega) | simp | omega)
    have sm166 := sm0.tr (sm161.wide (by simp))
    cases q159 : numF tn tv ((ptL tn tv j k)) 0 (j + 3 * k) with
    | none =>
      rw [q159] at e158
      obtain ⟨e0, g162⟩ := e158
      cases e0
      have g162 : h157[6]? = some (cO 1 [.ref 7, .ref 12, .ref 13, .ref 14, .int nc, .int (nI ((j + 3 * k) + 1)), .int (nI (nv tn tv (j + 3 * k))), .int ft, .int fk]) := g162
      obtain ⟨hin167, kkq159⟩ := num_lt hTk (by omega) q159
      refine x_if_ne (tgt := 26) dX1_readPoint_21 (by decide) (fun c_21 => ?_) (fun c_21 => absurd c_21 (by decide))
      refine x_aload_n dX1_readPoint_26 1 rfl ?_
      refine x_get (v := .int (nI k)) dX1_readPoint_27 fX1_131 f163 (by omega) rfl ?_
      refine x_bipush (v := 8) dX1_readPoint_30 (by decide) ?_
      refine x_icmp_ltN (tgt := 47) (a := k) (b := 8) (by omega) (by omega) dX1_readPoint_32 (by decide) (fun c_32 => ?_) (fun c_32 => ?_)
      · refine x_aload_n dX1_readPoint_47 0 rfl ?_
        refine x_get (v := .int (nI (nv tn tv (j + 3 * k)))) dX1_readPoint_48 fX1_38 g162 (by decide) rfl ?_
        refine x_istore_n (lv2 := [(2, .int (nI (nv tn tv (j + 3 * k)))), (0, .ref 6), (1, .ref q)]) dX1_readPoint_51 (by decide) rfl ?_
        refine x_aload_n dX1_readPoint_52 1 rfl ?_
        refine x_bipush (v := 20) dX1_readPoint_53 (by decide) ?_
        refine x_callV (rf' := 1) (rl' := 22) [.int 20] [] dX1_readPoint_55 vX1_65 Y_X1_readToken g162 (by decide) rfl rfl (Nat.le_of_ble_eq_true rfl) (Nat.le_of_ble_eq_true rfl) (by decide) (by decide) (c_readToken (k := 20) (i := ((j + 3 * k) + 1)) (hTk.sm sm166 (by simp; omega)) (by omega) (by omega) g162) (fun r h168 e169 => ?_)
        obtain ⟨sm172, e169⟩ := e169
        have sm172 : Sm [6] h157 h168 := sm172
        have f174 := sm172.at f163 (by first | decide | (simp; omega) | simp | omega)
        have f175 := sm172.at f164 (by first | decide | (simp; omega) | simp | omega)
        have f176 := sm172.at f165 (by first | decide | (simp; omega) | simp | omega)
        have sm177 := sm166.tr (sm172.wide (by simp))
        cases q170 : tokF tn tv 20 ((j + 3 * k) + 1) with
        | none =>
          rw [q170] at e169
          obtain ⟨e0, g173⟩ := e169
          cases e0
          have g173 : h168[6]? = some (cO 1 [.ref 7, .ref 12, .ref 13, .ref 14, .int nc, .int (nI ((j + 3 * k) + 2)), .int (nI (nv tn tv (j + 3 * k))), .int ft, .int fk]) := g173
          obtain ⟨hin178, kkq170⟩ := tok_lt hTk (by omega) (by omega) q170
          refine x_if_eq (tgt := 74) dX1_readPoint_58 (by decide) (fun c_58 => absurd c_58 (by decide)) (fun c_58 => ?_)
          refine x_aload_n dX1_readPoint_61 1 rfl ?_
          refine x_aload_n dX1_readPoint_62 2 rfl ?_
          refine x_callV (rf' := 0) (rl' := 0) [] [.ref 6] dX1_readPoint_63 vX1_137 Y_X6_leastPush f174 (by omega) rfl rfl (Nat.le_of_ble_eq_true rfl) (Nat.le_of_ble_eq_true rfl) (by decide) (by decide) (c_leastPush f174 f176 (by omega) (by omega) hk) (fun _ _ e179 => ?_)
          cases e179
          rw [show (if k = 0 then 0 else g2 (k - 1)) = ptU tn tv j k from eU]
          refine x_ldc (v := 60000) dX1_readPoint_66 kX1_140 ?_
          refine x_callV (rf' := 1) (rl' := 22) [.int (ptU tn tv j k), .int 60000] [] dX1_readPoint_68 vX1_134 Y_X1_readNumber g173 (by decide) rfl rfl (Nat.le_of_ble_eq_true rfl) (Nat.le_of_ble_eq_true rfl) (by decide) (by decide) (c_readNumber (a := (ptU tn tv j k)) (b := 60000) (i := ((j + 3 * k) + 2)) (hTk.sm sm177 (by simp; omega)) (by omega) g173) (fun r h180 e181 => ?_)
          obtain ⟨sm184, e181⟩ := e181
          have sm184 : Sm [6] h168 h180 := sm184
          have f186 := sm184.at f174 (by first | decide | (simp; omega) | simp | omega)
          have f187 := sm184.at f175 (by first | decide | (simp; omega) | simp | omega)
          have f188 := sm184.at f176 (by first | decide | (simp; omega) | simp | omega)
          have sm189 := sm177.tr (sm184.wide (by simp))
          cases q182 : numF tn tv ((ptU tn tv j k)) 60000 ((j + 3 * k) + 2) with
          | none =>
            rw [q182] at e181
            obtain ⟨e0, g185⟩ := e181
            cases e0
            have g185 : h180[6]? = some (cO 1 [.ref 7, .ref 12, .ref 13, .ref 14, .int nc, .int (nI ((j + 3 * k) + 3)), .int (nI (nv tn tv ((j + 3 * k) + 2))), .int ft, .int fk]) := g185
            obtain ⟨hin190, kkq182⟩ := num_lt hTk (by omega) q182
            refine x_if_ne (tgt := 76) dX1_readPoint_71 (by decide) (fun c_71 => ?_) (fun c_71 => absurd c_71 (by decide))
            refine x_aload_n dX1_readPoint_76 2 rfl ?_
            refine x_iload_n dX1_readPoint_77 0 rfl ?_
            refine x_aload_n dX1_readPoint_78 1 rfl ?_
            refine x_get (v := .int (nI (nv tn tv ((j + 3 * k) + 2)))) dX1_readPoint_79 fX1_38 g185 (by decide) rfl ?_
            refine x_callV (rf' := 0) (rl' := 0) [.int (nI (nv tn tv (j + 3 * k))), .int (nI (nv tn tv ((j + 3 * k) + 2)))] [] dX1_readPoint_82 vX1_141 Y_X6_addPoint f186 (by omega) rfl rfl (Nat.le_of_ble_eq_true rfl) (Nat.le_of_ble_eq_true rfl) (by decide) (by decide) (c_addPoint (by omega) (by omega) f186 f187 f188) (fun r h191 e192 => ?_)
            obtain ⟨e0, sm193, g194, g195, g196⟩ := e192
            cases e0
            have sm193 : Sm [q, q + 1, q + 2] h180 h191 := sm193
            have sm197 := sm189.tr (sm193.wide (by simp))
            have f198 := sm193.at g185 (by simp; omega)
            refine x_iconst (v := 1) dX1_readPoint_85 (by decide) ?_
            exact x_zret dX1_readPoint_86 rfl rfl ⟨sm197, by rw [show ptF tn tv j k = none by unfold ptF; rw [if_pos (show k = 0 by omega), q159, if_neg (by omega), q170, q182]; rfl]; exact ⟨rfl, by omega, by omega, _, f198, g194, g195, g196⟩⟩
          | some fl183 =>
            rw [q182] at e181
            obtain ⟨e0, v199, g185⟩ := e181
            cases e0
            refine x_if_ne (tgt := 76) dX1_readPoint_71 (by decide) (fun c_71 => absurd (by decide) c_71) (fun c_71 => ?_)
            refine x_iconst (v := 0) dX1_readPoint_74 (by decide) ?_
            exact x_zret dX1_readPoint_75 rfl rfl ⟨sm189, by rw [show ptF tn tv j k = some fl183 by unfold ptF; rw [if_pos (show k = 0 by omega), q159, if_neg (by omega), q170, q182]; rfl]; exact ⟨rfl, _, _, _, g185⟩⟩
        | some fl171 =>
          rw [q170] at e169
          obtain ⟨e0, g173⟩ := e169
          cases e0
          refine x_if_eq (tgt := 74) dX1_readPoint_58 (by decide) (fun c_58 => ?_) (fun c_58 => absurd (by decide) c_58)
          refine x_iconst (v := 0) dX1_readPoint_74 (by decide) ?_
          exact x_zret dX1_readPoint_75 rfl rfl ⟨sm177, by rw [show ptF tn tv j k = some fl171 by unfold ptF; rw [if_pos (show k = 0 by omega), q159, if_neg (by omega), q170]; rfl]; exact ⟨rfl, _, _, _, g173⟩⟩
      · refine x_aload_n dX1_readPoint_35 0 rfl ?_
        refine x_aload_n dX1_readPoint_36 0 rfl ?_
        refine x_get (v := .int (nI ((j + 3 * k) + 1))) dX1_readPoint_37 fX1_35 g162 (by decide) rfl ?_
        refine x_iconst (v := 1) dX1_readPoint_40 (by decide) ?_
        refine x_isubN (a := ((j + 3 * k) + 1)) (b := 1) (by omega) dX1_readPoint_41 ?_
        refine x_iconst (v := 4) dX1_readPoint_42 (by decide) ?_
        refine x_callV (rf' := 0) (rl' := 0) [.int (nI (((j + 3 * k) + 1) - 1)), .int 4] [] dX1_readPoint_43 vX1_71 Y_X1_refuse g162 (by decide) rfl rfl (Nat.le_of_ble_eq_true rfl) (Nat.le_of_ble_eq_true rfl) (by decide) (by decide) (c_refuse g162) (fun r h202 e203 => ?_)
        obtain ⟨sm205, e0, g204⟩ := e203
        cases e0
        have sm205 : Sm [6] h157 h202 := sm205
        have sm206 := sm166.tr (sm205.wide (by simp))
        have f207 := sm205.at f163 (by first | decide | (simp; omega) | simp | omega)
        have f208 := sm205.at f164 (by first | decide | (simp; omega) | simp | omega)
        have f209 := sm205.at f165 (by first | decide | (simp; omega) | simp | omega)
        exact x_zret dX1_readPoint_46 rfl rfl ⟨sm206, by rw [show ptF tn tv j k = some (4, j + 3 * k) by unfold ptF; rw [if_pos (show k = 0 by omega), q159, if_pos (by omega)]; rfl]; exact ⟨rfl, _, _, _, g204⟩⟩
    | some fl160 =>
      rw [q159] at e158
      obtain ⟨e0, v210, g162⟩ := e158
      cases e0
      refine x_if_ne (tgt := 26) dX1_readPoint_21 (by decide) (fun c_21 => absurd (by decide) c_21) (fun c_21 => ?_)
      refine x_iconst (v := 0) dX1_readPoint_24 (by decide) ?_
      exact x_zret dX1_readPoint_25 rfl rfl ⟨sm166, by rw [show ptF tn tv j k = some fl160 by unfold ptF; rw [if_pos (show k = 0 by omega), q159]; rfl]; exact ⟨rfl, _, _, _, g162⟩⟩

set_option maxRecDepth 100000 in
set_option maxHeartbeats 4000000 in
theorem l_foamPts {G : GT} {hb : List PE} {tn N j q a : Nat} {tv : Nat → Nat} {nc ft fk : Int32} {Q : OT → Prop} (hTk : TkR hb tn tv N) (hq : 51 ≤ q) : ∀ (m k : Nat) (h : List PE) (v : Int32) (g1 g2 : Nat → Int32), m + k = 9 → k ≤ 8 → Sm [6, q, q + 1, q + 2] hb h → h[6]? = some (cO 1 [.ref 7, .ref 12, .ref 13, .ref 14, .int nc, .int (nI (j + 3 * k)), .int v, .int ft, .int fk]) → h[q]? = some (cO 6 [.ref (q + 1), .ref (q + 2), .int (nI k), .int 0, .int 0]) → h[q + 1]? = some (cI 8 g1) → h[q + 2]? = some (cI 8 g2) → (∀ m, m < k → g1 m = nI (nv tn tv (j + 3 * m)) ∧ g2 m = nI (nv tn tv (j + 3 * m + 2))) → j + 3 * k ≤ N → (∀ (np : Nat) (h : List PE) (v : Int32) (g1 g2 : Nat → Int32), ptsF tn tv j m k = .inr np → Sm [6, q, q + 1, q + 2] hb h → h[6]? = some (cO 1 [.ref 7, .ref 12, .ref 13, .ref 14, .int nc, .int (nI (j + 3 * np)), .int v, .int ft, .int fk]) → h[q]? = some (cO 6 [.ref (q + 1), .ref (q + 2), .int (nI np), .int 0, .int 0]) → h[q + 1]? = some (cI 8 g1) → h[q + 2]? = some (cI 8 g2) → (∀ m, m < np → g1 m = nI (nv tn tv (j + 3 * m)) ∧ g2 m = nI (nv tn tv (j + 3 * m + 2))) → j + 3 * np ≤ N → X (NF G) G mX1_readFoam 3 67 73 [(2, .ref q), (0, .ref 6), (1, .ref a)] [] h Q) → (∀ (f : Nat × Nat) (h : List PE), ptsF tn tv j m k = .inl f → Sm [6, q, q + 1, q + 2] hb h → Bd h f → Q (some (.int 0), h)) → X (NF G) G mX1_readFoam 3 67 37 [(3, .int (nI k)), (2, .ref q), (0, .ref 6), (1, .ref a)] [] h Q := by
  intro m
  induction m with
  | zero => intro k h v g1 g2 hm hk; omega
  | succ m ih =>
    intro k h v g1 g2 hm hk sm f6 fq f1 f2 hg hi KX KF
    have hTk1 := hTk.sm sm (by simp; omega)
    refine x_iload_n dX1_readFoam_37 0 rfl ?_
    refine x_bipush (v := 8) dX1_readFoam_38 (by decide) ?_
    refine x_icmp_gtN (tgt := 73) (a := k) (b := 8) (by omega) (by omega) dX1_readFoam_40 (by decide) (fun c_40 => absurd c_40 (by omega)) (fun c_40 => ?_)
    refine x_iload_n dX1_readFoam_43 0 rfl ?_
    refine x_iconst (v := 2) dX1_readFoam_44 (by decide) ?_
    refine x_icmp_ltN (tgt := 57) (a := k) (b := 2) (by omega) (by omega) dX1_readFoam_45 (by decide) (fun c_45 => ?_) (fun c_45 => ?_)
    · refine x_aload_n dX1_readFoam_57 2 rfl ?_
      refine x_aload_n dX1_readFoam_58 1 rfl ?_
      refine x_callV (rf' := 2) (rl' := 44) [.ref q] [] dX1_readFoam_59 vX1_109 Y_X1_readPoint f6 (by decide) rfl rfl (Nat.le_of_ble_eq_true rfl) (Nat.le_of_ble_eq_true rfl) (by decide) (by decide) (c_readPoint (j := j) (k := k) hTk1 hi hk hq hg f6 fq f1 f2) (fun r h101 e102 => ?_)
      obtain ⟨sm1, e1⟩ := e102
      have sm1 : Sm [6, q, q + 1, q + 2] h h101 := sm1
      cases hp : ptF tn tv j k with
      | some f =>
        rw [hp] at e1
        obtain ⟨e0, bd⟩ := e1
        cases e0
        refine x_if_ne (tgt := 67) dX1_readFoam_62 (by decide) (fun c_62 => absurd (by decide) c_62) (fun c_62 => ?_)
        refine x_iconst (v := 0) dX1_readFoam_65 (by decide) ?_
        exact x_zret dX1_readFoam_66 rfl rfl (KF f h101 (by show (if 2 ≤ k ∧ ¬ kd tn tv (j + 3 * k) = 18 then _ else _) = _; rw [if_neg (show ¬ (2 ≤ k ∧ ¬ kd tn tv (j + 3 * k) = 18) by omega), hp]) (sm.tr sm1) bd)
      | none =>
        rw [hp] at e1
        obtain ⟨e0, h8, hiN, v2, p6, pq, p1, p2⟩ := e1
        cases e0
        refine x_if_ne (tgt := 67) dX1_readFoam_62 (by decide) (fun c_62 => ?_) (fun c_62 => absurd c_62 (by decide))
        refine x_iincN (lv2 := [(3, .int (nI (k + 1))), (2, .ref q), (0, .ref 6), (1, .ref a)]) dX1_readFoam_67 0 rfl (by decide) rfl ?_
        refine x_goto (tgt := 37) dX1_readFoam_70 (by decide) ?_
        refine x_perm (lv2 := [(3, .int (nI (k + 1))), (2, .ref q), (0, .ref 6), (1, .ref a)]) [0, 1, 2, 3] rfl ?_
        have eS : ptsF tn tv j (m + 1) k = ptsF tn tv j m (k + 1) := by show (if 2 ≤ k ∧ ¬ kd tn tv (j + 3 * k) = 18 then _ else _) = _; rw [if_neg (show ¬ (2 ≤ k ∧ ¬ kd tn tv (j + 3 * k) = 18) by omega), hp]
        rw [eS] at KX KF
        refine ih (k + 1) h101 v2 _ _ (by omega) (by omega) (sm.tr sm1) p6 pq p1 p2 (fun m9 hm9 => ?_) hiN KX KF
        by_cases e : m9 = k
        · subst e; rw [pk_us, pk_us]; exact ⟨rfl, rfl⟩
        · rw [pk_un e, pk_un e]; exact hg m9 (by omega)
    · refine x_aload_n dX1_readFoam_48 2 rfl ?_
      refine x_bipush (v := 18) dX1_readFoam_49 (by decide) ?_
      refine x_callV (rf' := 1) (rl' := 21) [.int 18] [] dX1_readFoam_51 vX1_52 Y_X1_isNow f6 (by decide) rfl rfl (Nat.le_of_ble_eq_true rfl) (Nat.le_of_ble_eq_true rfl) (by decide) (by decide) (c_isNow (k := 18) (i := j + 3 * k) hTk1 hi (by decide) f6) (fun _ _ e103 => ?_)
      cases e103
      by_cases hn : kd tn tv (j + 3 * k) = 18
      · rw [if_pos hn]
        refine x_if_eq (tgt := 73) dX1_readFoam_54 (by decide) (fun c_54 => absurd c_54 (by decide)) (fun c_54 => ?_)
        refine x_aload_n dX1_readFoam_57 2 rfl ?_
        refine x_aload_n dX1_readFoam_58 1 rfl ?_
        refine x_callV (rf' := 2) (rl' := 44) [.ref q] [] dX1_readFoam_59 vX1_109 Y_X1_readPoint f6 (by decide) rfl rfl (Nat.le_of_ble_eq_true rfl) (Nat.le_of_ble_eq_true rfl) (by decide) (by decide) (c_readPoint (j := j) (k := k) hTk1 hi hk hq hg f6 fq f1 f2) (fun r h104 e105 => ?_)
        obtain ⟨sm1, e1⟩ := e105
        have sm1 : Sm [6, q, q + 1, q + 2] h h104 := sm1
        cases hp : ptF tn tv j k with
        | some f =>
          rw [hp] at e1
          obtain ⟨e0, bd⟩ := e1
          cases e0
          refine x_if_ne (tgt := 67) dX1_readFoam_62 (by decide) (fun c_62 => absurd (by decide) c_62) (fun c_62 => ?_)
          refine x_iconst (v := 0) dX1_readFoam_65 (by decide) ?_
          exact x_zret dX1_readFoam_66 rfl rfl (KF f h104 (by show (if 2 ≤ k ∧ ¬ kd tn tv (j + 3 * k) = 18 then _ else _) = _; rw [if_neg (show ¬ (2 ≤ k ∧ ¬ kd tn tv (j + 3 * k) = 18) by omega), hp]) (sm.tr sm1) bd)
        | none =>
          rw [hp] at e1
          obtain ⟨e0, h8, hiN, v2, p6, pq, p1, p2⟩ := e1
          cases e0
          refine x_if_ne (tgt := 67) dX1_readFoam_62 (by decide) (fun c_62 => ?_) (fun c_62 => absurd c_62 (by decide))
          refine x_iincN (lv2 := [(3, .int (nI (k + 1))), (2, .ref q), (0, .ref 6), (1, .ref a)]) dX1_readFoam_67 0 rfl (by decide) rfl ?_
          refine x_goto (tgt := 37) dX1_readFoam_70 (by decide) ?_
          refine x_perm (lv2 := [(3, .int (nI (k + 1))), (2, .ref q), (0, .ref 6), (1, .ref a)]) [0, 1, 2, 3] rfl ?_
          have eS : ptsF tn tv j (m + 1) k = ptsF tn tv j m (k + 1) := by show (if 2 ≤ k ∧ ¬ kd tn tv (j + 3 * k) = 18 then _ else _) = _; rw [if_neg (show ¬ (2 ≤ k ∧ ¬ kd tn tv (j + 3 * k) = 18) by omega), hp]
          rw [eS] at KX KF
          refine ih (k + 1) h104 v2 _ _ (by omega) (by omega) (sm.tr sm1) p6 pq p1 p2 (fun m9 hm9 => ?_) hiN KX KF
          by_cases e : m9 = k
          · subst e; rw [pk_us, pk_us]; exact ⟨rfl, rfl⟩
          · rw [pk_un e, pk_un e]; exact hg m9 (by omega)
      · rw [if_neg hn]
        refine x_if_eq (tgt := 73) dX1_readFoam_54 (by decide) (fun c_54 => ?_) (fun c_54 => absurd (by decide) c_54)
        refine x_perm [1, 2, 3] rfl ?_
        exact KX k h v g1 g2 (if_pos ⟨by omega, hn⟩) sm f6 fq f1 f2 hg hi

theorem fom_new {h : List PE} {tn nf i q np : Nat} {tv : Nat → Nat} {R g1 g2 : Nat → Int32} (hN : fomN tn tv i = np) (h8 : np ≤ 8) (hq : 51 ≤ q) (f0 : h[q]? = some (cO 6 [.ref (q + 1), .ref (q + 2), .int (nI np), .int (nI (nv tn tv (i + 3 + 3 * np))), .int (nI (nv tn tv (i + 5 + 3 * np)))])) (f1 : h[q + 1]? = some (cI 8 g1)) (f2 : h[q + 2]? = some (cI 8 g2)) (hg : ∀ m, m < np → g1 m = nI (nv tn tv (i + 2 + 3 * m)) ∧ g2 m = nI (nv tn tv (i + 2 + 3 * m + 2))) : FoamAt h (fomR tn tv nf i R) (4 + 20 * nf) np q ∧ fomR tn tv nf i R (4 + 20 * nf) = nI np := by
  have t0 : fomR tn tv nf i R (4 + 20 * nf) = nI np := by unfold fomR; rw [hN, if_pos rfl]
  have t1 : fomR tn tv nf i R (4 + 20 * nf + 1) = nI (nv tn tv (i + 3 + 3 * np)) := by unfold fomR; rw [hN, if_neg (by omega), if_pos rfl]
  have t2 : fomR tn tv nf i R (4 + 20 * nf + 2) = nI (nv tn tv (i + 5 + 3 * np)) := by unfold fomR; rw [hN, if_neg (by omega), if_neg (by omega), if_pos rfl]
  refine ⟨⟨hq, q + 1, q + 2, g1, g2, by omega, by omega, by rw [t1, t2]; exact f0, f1, f2, fun k hk => ?_⟩, t0⟩
  rw [(hg k hk).1, (hg k hk).2]
  unfold fomR
  refine ⟨?_, ?_⟩
  · rw [hN, if_neg (by omega), if_neg (by omega), if_neg (by omega), if_pos (by omega), show 4 + 20 * nf + 3 + k - (4 + 20 * nf + 3) = k by omega]
  · rw [hN, if_neg (by omega), if_neg (by omega), if_neg (by omega), if_neg (by omega), if_pos (by omega), show 4 + 20 * nf + 11 + k - (4 + 20 * nf + 11) = k by omega, show i + 2 + 3 * k + 2 = i + 4 + 3 * k by omega]

theorem in6q {m q : Nat} (h : m ≤ q) : ∀ x, x ∈ [6, q, q + 1, q + 2] → x ∈ [6, 12, 13, 14] ∨ m ≤ x := fun x hx => by
  simp only [List.mem_cons, List.not_mem_nil, or_false] at hx
  rcases hx with e | e | e | e
  · exact Or.inl (by subst e; decide)
  · exact Or.inr (by omega)
  · exact Or.inr (by omega)
  · exact Or.inr (by omega)

set_option maxRecDepth 100000 in
set_option maxHeartbeats 4000000 in
theorem c_readFoam {G : GT} {h : List PE} {tn N i a ln : Nat} {tv : Nat → Nat} {nl : NL'} {c : CN} {R : Nat → Int32} (hTk : TkR h tn tv N) (hi : i ≤ N) (hRd : RdS h i nl) (hB : BkC h R c a ln) (W : WFk R c) (hnl : NlOk nl c) (hk0 : kd tn tv i < 22)  : CT G mX1_readFoam 3 67 [.ref 6, .ref a] h (LnP h (fomF tn tv nl c.1 i) (i + 6 + 3 * fomN tn tv i) (nl ++ [(0, c.1, wn tn tv (i + 1))]) (fomR tn tv c.1 i R) (c.1 + 1, c.2.1, c.2.2.1, c.2.2.2) a ln) := by
  obtain ⟨⟨v, ft, f6⟩, hNm⟩ := id hRd
  obtain ⟨ha51, Q, Z, fa, fz1, fz2, fz3, fz4, hP⟩ := id hB
  have hNm0 := hNm
  obtain ⟨hl24, y12, y13, y14, f12, f13, f14, hy⟩ := hNm0
  have la := lt_at fz4
  have hm : 51 ≤ h.length := by omega
  have w1 := W.2.1
  have w3 := W.2.2.2.1
  have w5 := W.2.2.2.2.2.1
  have w7 := W.2.2.2.2.2.2.2.1
  have hnl1 := hnl.1
  have hi1 : i + 1 ≤ N := by have := (hTk.ki hi).2; omega
  have sm0 : Gr h.length [6, 12, 13, 14] 0 0 h h := Gr.rf
  show X (NF G) G mX1_readFoam 3 67 0 [(0, .ref 6), (1, .ref a)] [] h _
  refine x_aload_n dX1_readFoam_0 0 rfl ?_
  refine x_aload_n dX1_readFoam_1 1 rfl ?_
  refine x_get (v := .int (nI (c.1))) dX1_readFoam_2 fX1_97 fa (by omega) rfl ?_
  refine x_bipush (v := 8) dX1_readFoam_5 (by decide) ?_
  by_cases h8 : 8 ≤ c.1
  · refine x_callV (rf' := 1) (rl' := 22) [.int (nI (c.1)), .int 8] [] dX1_readFoam_7 vX1_100 Y_X1_readFirstWord f6 (by decide) rfl rfl (Nat.le_of_ble_eq_true rfl) (Nat.le_of_ble_eq_true rfl) (by decide) (by decide) (c_firstF (i := i) (show ¬ nI (c.1) < nI 8 from fun z => absurd ((nI_ltI (by omega) (by decide)).mp z) (by omega)) f6) (fun r h101 e102 => ?_)
    obtain ⟨sm104, e0, g103⟩ := e102
    cases e0
    have sm104 : Sm [6] h h101 := sm104
    have f105 := sm104.at fa (by first | decide | (simp; omega) | simp | omega)
    have f106 := sm104.at fz1 (by first | decide | (simp; omega) | simp | omega)
    have f107 := sm104.at f12 (by first | decide | (simp; omega) | simp | omega)
    have f108 := sm104.at f13 (by first | decide | (simp; omega) | simp | omega)
    have f109 := sm104.at f14 (by first | decide | (simp; omega) | simp | omega)
    have f110 := sm104.at fz2 (by first | decide | (simp; omega) | simp | omega)
    have f111 := sm104.at fz3 (by first | decide | (simp; omega) | simp | omega)
    have f112 := sm104.at fz4 (by first | decide | (simp; omega) | simp | omega)
    have sm113 := Gr.sm sm0 sm104 (fun x hx => Or.inl (by revert x; decide))
    refine x_if_eq (tgt := 25) dX1_readFoam_10 (by decide) (fun c_10 => ?_) (fun c_10 => absurd (by decide) c_10)
    refine x_iconst (v := 0) dX1_readFoam_25 (by decide) ?_
    exact x_zret dX1_readFoam_26 rfl rfl ⟨Gr.wide (m := a) sm113 (fun x _ hx => hx) (by omega) (by decide) (by decide), by rw [show fomF tn tv nl c.1 i = some (4, i) by unfold fomF; rw [if_pos h8]]; exact ⟨rfl, ⟨_, _, _, g103⟩, _, _, _, f107, f108, f109⟩⟩
  · refine x_callV (rf' := 1) (rl' := 22) [.int (nI (c.1)), .int 8] [] dX1_readFoam_7 vX1_100 Y_X1_readFirstWord f6 (by decide) rfl rfl (Nat.le_of_ble_eq_true rfl) (Nat.le_of_ble_eq_true rfl) (by decide) (by decide) (c_firstS (i := i) (show nI (c.1) < nI 8 from (nI_ltI (by omega) (by decide)).mpr (by omega)) f6) (fun r h114 e115 => ?_)
    obtain ⟨sm117, e0, g116⟩ := e115
    cases e0
    have sm117 : Sm [6] h h114 := sm117
    have f118 := sm117.at fa (by first | decide | (simp; omega) | simp | omega)
    have f119 := sm117.at fz1 (by first | decide | (simp; omega) | simp | omega)
    have f120 := sm117.at f12 (by first | decide | (simp; omega) | simp | omega)
    have f121 := sm117.at f13 (by first | decide | (simp; omega) | simp | omega)
    have f122 := sm117.at f14 (by first | decide | (simp; omega) | simp | omega)
    have f123 := sm117.at fz2 (by first | decide | (simp; omega) | simp | omega)
    have f124 := sm117.at fz3 (by first | decide | (simp; omega) | simp | omega)
    have f125 := sm117.at fz4 (by first | decide | (simp; omega) | simp | omega)
    have sm126 := Gr.sm sm0 sm117 (fun x hx => Or.inl (by revert x; decide))
    refine x_if_eq (tgt := 25) dX1_readFoam_10 (by decide) (fun c_10 => absurd c_10 (by decide)) (fun c_10 => ?_)
    refine x_aload_n dX1_readFoam_13 0 rfl ?_
    refine x_iconst (v := 0) dX1_readFoam_14 (by decide) ?_
    refine x_aload_n dX1_readFoam_15 1 rfl ?_
    refine x_get (v := .int (nI (c.1))) dX1_readFoam_16 fX1_97 f118 (by omega) rfl ?_
    refine x_callV (rf' := 2) (rl' := 43) [.int 0, .int (nI (c.1))] [] dX1_readFoam_19 vX1_103 Y_X1_readNewName g116 (by decide) rfl rfl (Nat.le_of_ble_eq_true rfl) (Nat.le_of_ble_eq_true rfl) (by decide) (by decide) (c_readNewName (k := 0) (c := (c.1)) (i := (i + 1)) (hTk.gr sm126 hm (by decide)) (by omega) ⟨hl24, _, _, _, f120, f121, f122, hy⟩ (by omega) (by omega) (by omega) g116) (fun r h127 e128 => ?_)
    obtain ⟨sm131, e128⟩ := e128
    have sm131 : Sm [6, 12, 13, 14] h114 h127 := sm131
    have f133 := sm131.at f118 (by first | decide | (simp; omega) | simp | omega)
    have f134 := sm131.at f119 (by first | decide | (simp; omega) | simp | omega)
    have f135 := sm131.at f123 (by first | decide | (simp; omega) | simp | omega)
    have f136 := sm131.at f124 (by first | decide | (simp; omega) | simp | omega)
    have f137 := sm131.at f125 (by first | decide | (simp; omega) | simp | omega)
    have sm138 := Gr.sm sm126 sm131 (fun x hx => Or.inl (by revert x; decide))
    cases q129 : newF tn tv nl (i + 1) with
    | none =>
      rw [q129] at e128
      obtain ⟨e0, g132, x139⟩ := e128
      cases e0
      have g132 : h127[6]? = some (cO 1 [.ref 7, .ref 12, .ref 13, .ref 14, .int (nI (nl.length + 1)), .int (nI (i + 2)), .int v, .int ft, .int 0]) := g132
      obtain ⟨y140, y141, y142, y143, y144, y145, y146, y147⟩ := id x139
      obtain ⟨hin148, kkq129⟩ := new_lt hTk (by omega) q129
      refine x_if_ne (tgt := 27) dX1_readFoam_22 (by decide) (fun c_22 => ?_) (fun c_22 => absurd c_22 (by decide))
      refine x_new dX1_readFoam_27 nX1_106 (fun h149 q150 ea151 a152 e153 l154 s155 => ?_)
      have lm156 := sm138.2.1
      have f157 := (e153 6 (by have := lt_at g132; omega)).trans g132
      have f158 := (e153 a (by have := lt_at f133; omega)).trans f133
      have f159 := (e153 (a + 1) (by have := lt_at f134; omega)).trans f134
      have f160 := (e153 (a + 2) (by have := lt_at f135; omega)).trans f135
      have f161 := (e153 (a + 3) (by have := lt_at f136; omega)).trans f136
      have f162 := (e153 (a + 4) (by have := lt_at f137; omega)).trans f137
      have f163 := (e153 12 (by have := lt_at y144; omega)).trans y144
      have f164 := (e153 13 (by have := lt_at y145; omega)).trans y145
      have f165 := (e153 14 (by have := lt_at y146; omega)).trans y146
      have sm166 := Gr.new sm138 ea151 e153 l154 s155
      refine x_dup dX1_readFoam_30 rfl ?_
      refine x_callIN (rf' := 1) (rl' := 20) [] [.ref q150] dX1_readFoam_31 vX1_108 Y_X6_init rfl rfl (Nat.le_of_ble_eq_true rfl) (Nat.le_of_ble_eq_true rfl) (by decide) (by decide) (c_X6_init (by omega) (by omega) a152) (fun r h167 e168 => ?_)
      obtain ⟨e0, l169, g171, g172, g173, gr170⟩ := e168
      cases e0
      have l169 : h167.length = q150 + 3 := l169
      have gr170 : Gr q150 [] 2 16 h149 h167 := gr170
      have f174 := gr170.at f157 (by have := lt_at f157; omega) (by simp)
      have f175 := gr170.at f158 (by have := lt_at f158; omega) (by simp)
      have f176 := gr170.at f159 (by have := lt_at f159; omega) (by simp)
      have f177 := gr170.at f160 (by have := lt_at f160; omega) (by simp)
      have f178 := gr170.at f161 (by have := lt_at f161; omega) (by simp)
      have f179 := gr170.at f162 (by have := lt_at f162; omega) (by simp)
      have f180 := gr170.at f163 (by have := lt_at f163; omega) (by simp)
      have f181 := gr170.at f164 (by have := lt_at f164; omega) (by simp)
      have f182 := gr170.at f165 (by have := lt_at f165; omega) (by simp)
      have sm183 := Gr.tr sm166 gr170 (by simp) (by omega)
      refine x_astore_n (lv2 := [(2, .ref q150), (0, .ref 6), (1, .ref a)]) dX1_readFoam_34 (by decide) rfl ?_
      refine x_iconst (v := 0) dX1_readFoam_35 (by decide) ?_
      refine x_istore_n (lv2 := [(3, .int 0), (2, .ref q150), (0, .ref 6), (1, .ref a)]) dX1_readFoam_36 (by decide) rfl ?_
      refine x_perm (lv2 := [(3, .int (nI 0)), (2, .ref q150), (0, .ref 6), (1, .ref a)]) [0, 1, 2, 3] rfl ?_
      refine l_foamPts (j := i + 2) (hTk.gr sm183 hm (by decide)) (by omega) 9 0 h167 _ _ _ rfl (by decide) Sm.rf f174 g171 g172 g173 (fun m hm => absurd hm (Nat.not_lt_zero m)) (by omega) (fun np h7 v7 g17 g27 hp sm7 p6 pq p1 p2 hg hiN => ?_) (fun f h7 hp sm7 bd => ?_)
      · obtain ⟨-, hp2, hp8, -⟩ := pts_spec 9 0 np rfl hp (by decide)
        have hN9 : fomN tn tv i = np := by unfold fomN; rw [hp]
        have f184 := sm7.at f175 (by simp; omega)
        have f185 := sm7.at f176 (by simp; omega)
        have f186 := sm7.at f177 (by simp; omega)
        have f187 := sm7.at f178 (by simp; omega)
        have f188 := sm7.at f179 (by simp; omega)
        have f189 := sm7.at f180 (by simp; omega)
        have f190 := sm7.at f181 (by simp; omega)
        have f191 := sm7.at f182 (by simp; omega)
        have sm192 := Gr.sm sm183 sm7 (in6q (by omega))
        refine x_aload_n dX1_readFoam_73 1 rfl ?_
        refine x_iconst (v := 5) dX1_readFoam_74 (by decide) ?_
        refine x_iconst (v := 0) dX1_readFoam_75 (by decide) ?_
        refine x_bipush (v := 100) dX1_readFoam_76 (by decide) ?_
        refine x_callV (rf' := 2) (rl' := 44) [.int 5, .int 0, .int 100] [] dX1_readFoam_78 vX1_113 Y_X1_readNumberOf p6 (by decide) rfl rfl (Nat.le_of_ble_eq_true rfl) (Nat.le_of_ble_eq_true rfl) (by decide) (by decide) (c_readNumberOf (k := 5) (a := 0) (b := 100) (i := (i + 2 + 3 * np)) (hTk.gr sm192 hm (by decide)) (by omega) (by omega) p6) (fun r h193 e194 => ?_)
        obtain ⟨sm197, e194⟩ := e194
        have sm197 : Sm [6] h7 h193 := sm197
        have f199 := sm197.at f184 (by first | decide | (simp; omega) | simp | omega)
        have f200 := sm197.at f185 (by first | decide | (simp; omega) | simp | omega)
        have f201 := sm197.at f186 (by first | decide | (simp; omega) | simp | omega)
        have f202 := sm197.at f187 (by first | decide | (simp; omega) | simp | omega)
        have f203 := sm197.at f188 (by first | decide | (simp; omega) | simp | omega)
        have f204 := sm197.at f189 (by first | decide | (simp; omega) | simp | omega)
        have f205 := sm197.at f190 (by first | decide | (simp; omega) | simp | omega)
        have f206 := sm197.at f191 (by first | decide | (simp; omega) | simp | omega)
        have f207 := sm197.at pq (by first | decide | (simp; omega) | simp | omega)
        have f208 := sm197.at p1 (by first | decide | (simp; omega) | simp | omega)
        have f209 := sm197.at p2 (by first | decide | (simp; omega) | simp | omega)
        have sm210 := Gr.sm sm192 sm197 (fun x hx => Or.inl (by revert x; decide))
        cases q195 : numOfF tn tv 5 0 100 (i + 2 + 3 * np) with
        | none =>
          rw [q195] at e194
          obtain ⟨e0, g198⟩ := e194
          cases e0
          have g198 : h193[6]? = some (cO 1 [.ref 7, .ref 12, .ref 13, .ref 14, .int (nI (nl.length + 1)), .int (nI ((i + 2 + 3 * np) + 2)), .int (nI (nv tn tv ((i + 2 + 3 * np) + 1))), .int ft, .int 0]) := g198
          obtain ⟨hin211, kkq195⟩ := numOf_lt hTk (by omega) (by omega) q195
          refine x_if_ne (tgt := 86) dX1_readFoam_81 (by decide) (fun c_81 => ?_) (fun c_81 => absurd c_81 (by decide))
          refine x_aload_n dX1_readFoam_86 0 rfl ?_
          refine x_aload_n dX1_readFoam_87 1 rfl ?_
          refine x_get (v := .int (nI (nv tn tv ((i + 2 + 3 * np) + 1)))) dX1_readFoam_88 fX1_38 g198 (by decide) rfl ?_
          refine x_put (fs2 := [.ref (q150 + 1), .ref (q150 + 2), .int (nI np), .int (nI (nv tn tv ((i + 2 + 3 * np) + 1))), .int 0]) dX1_readFoam_91 fX1_117 (Or.inl rfl) f207 (by omega) rfl rfl (Nat.le_of_ble_eq_true rfl) rfl (fun h212 a213 e214 l215 s216 => ?_)
          have f217 := (e214 6 (by omega)).trans g198
          have f218 := (e214 a (by omega)).trans f199
          have f219 := (e214 (a + 1) (by omega)).trans f200
          have f220 := (e214 (a + 2) (by omega)).trans f201
          have f221 := (e214 (a + 3) (by omega)).trans f202
          have f222 := (e214 (a + 4) (by omega)).trans f203
          have f223 := (e214 12 (by omega)).trans f204
          have f224 := (e214 13 (by omega)).trans f205
          have f225 := (e214 14 (by omega)).trans f206
          have f226 := (e214 (q150 + 1) (by omega)).trans f208
          have f227 := (e214 (q150 + 2) (by omega)).trans f209
          have sm228 := Gr.put sm210 e214 l215 s216 (Or.inr (by omega))
          refine x_aload_n dX1_readFoam_94 1 rfl ?_
          refine x_bipush (v := 6) dX1_readFoam_95 (by decide) ?_
          refine x_iconst (v := 0) dX1_readFoam_97 (by decide) ?_
          refine x_bipush (v := 100) dX1_readFoam_98 (by decide) ?_
          refine x_callV (rf' := 2) (rl' := 44) [.int 6, .int 0, .int 100] [] dX1_readFoam_100 vX1_113 Y_X1_readNumberOf f217 (by decide) rfl rfl (Nat.le_of_ble_eq_true rfl) (Nat.le_of_ble_eq_true rfl) (by decide) (by decide) (c_readNumberOf (k := 6) (a := 0) (b := 100) (i := ((i + 2 + 3 * np) + 2)) (hTk.gr sm228 hm (by decide)) (by omega) (by omega) f217) (fun r h229 e230 => ?_)
          obtain ⟨sm233, e230⟩ := e230
          have sm233 : Sm [6] h212 h229 := sm233
          have f235 := sm233.at f218 (by first | decide | (simp; omega) | simp | omega)
          have f236 := sm233.at f219 (by first | decide | (simp; omega) | simp | omega)
          have f237 := sm233.at f220 (by first | decide | (simp; omega) | simp | omega)
          have f238 := sm233.at f221 (by first | decide | (simp; omega) | simp | omega)
          have f239 := sm233.at f222 (by first | decide | (simp; omega) | simp | omega)
          have f240 := sm233.at f223 (by first | decide | (simp; omega) | simp | omega)
          have f241 := sm233.at f224 (by first | decide | (simp; omega) | simp | omega)
          have f242 := sm233.at f225 (by first | decide | (simp; omega) | simp | omega)
          have f243 := sm233.at a213 (by first | decide | (simp; omega) | simp | omega)
          have f244 := sm233.at f226 (by first | decide | (simp; omega) | simp | omega)
          have f245 := sm233.at f227 (by first | decide | (simp; omega) | simp | omega)
          have sm246 := Gr.sm sm228 sm233 (fun x hx => Or.inl (by revert x; decide))
          cases q231 : numOfF tn tv 6 0 100 ((i + 2 + 3 * np) + 2) with
          | none =>
            rw [q231] at e230
            obtain ⟨e0, g234⟩ := e230
            cases e0
            have g234 : h229[6]? = some (cO 1 [.ref 7, .ref 12, .ref 13, .ref 14, .int (nI (nl.length + 1)), .int (nI ((i + 2 + 3 * np) + 4)), .int (nI (nv tn tv ((i + 2 + 3 * np) + 3))), .int ft, .int 0]) := g234
            obtain ⟨hin247, kkq231⟩ := numOf_lt hTk (by omega) (by omega) q231
            refine x_if_ne (tgt := 108) dX1_readFoam_103 (by decide) (fun c_103 => ?_) (fun c_103 => absurd c_103 (by decide))
            refine x_aload_n dX1_readFoam_108 0 rfl ?_
            refine x_aload_n dX1_readFoam_109 1 rfl ?_
            refine x_get (v := .int (nI (nv tn tv ((i + 2 + 3 * np) + 3)))) dX1_readFoam_110 fX1_38 g234 (by decide) rfl ?_
            refine x_put (fs2 := [.ref (q150 + 1), .ref (q150 + 2), .int (nI np), .int (nI (nv tn tv ((i + 2 + 3 * np) + 1))), .int (nI (nv tn tv ((i + 2 + 3 * np) + 3)))]) dX1_readFoam_113 fX1_120 (Or.inl rfl) f243 (by omega) rfl rfl (Nat.le_of_ble_eq_true rfl) rfl (fun h248 a249 e250 l251 s252 => ?_)
            have f253 := (e250 6 (by omega)).trans g234
            have f254 := (e250 a (by omega)).trans f235
            have f255 := (e250 (a + 1) (by omega)).trans f236
            have f256 := (e250 (a + 2) (by omega)).trans f237
            have f257 := (e250 (a + 3) (by omega)).trans f238
            have f258 := (e250 (a + 4) (by omega)).trans f239
            have f259 := (e250 12 (by omega)).trans f240
            have f260 := (e250 13 (by omega)).trans f241
            have f261 := (e250 14 (by omega)).trans f242
            have f262 := (e250 (q150 + 1) (by omega)).trans f244
            have f263 := (e250 (q150 + 2) (by omega)).trans f245
            have sm264 := Gr.put sm246 e250 l251 s252 (Or.inr (by omega))
            refine x_aload_n dX1_readFoam_116 2 rfl ?_
            refine x_aload_n dX1_readFoam_117 0 rfl ?_
            refine x_callV (rf' := 0) (rl' := 0) [.ref q150] [] dX1_readFoam_118 vX1_123 Y_X0_addFoam f254 (by omega) rfl rfl (Nat.le_of_ble_eq_true rfl) (Nat.le_of_ble_eq_true rfl) (by decide) (by decide) (c_addFoam (by omega) (by omega) (by omega) f254 f255 a249) (fun r h265 e266 => ?_)
            obtain ⟨e0, sm9, g0, g1⟩ := e266
            cases e0
            have sm9 : Sm [a, a + 1] h248 h265 := sm9
            have P1 : BkP h248 R c a Q Z := hP.kept ha51 (KpT.gr sm264 nm6)
            have ag : ∀ j, relB c j → fomR tn tv c.1 i R j = R j := fun j hj => by unfold relB at hj; unfold fomR; rw [hN9, if_neg (by omega), if_neg (by omega), if_neg (by omega), if_neg (by omega), if_neg (by omega), if_neg (by omega)]
            obtain ⟨F1, F2⟩ := fom_new (nf := c.1) (R := R) hN9 hp8 (by omega) (by rw [show i + 3 + 3 * np = i + 2 + 3 * np + 1 by omega, show i + 5 + 3 * np = i + 2 + 3 * np + 3 by omega]; exact a249) f262 f263 hg
            have P2 := (P1.rec ag).foam (q := q150) (by omega) (fun k hk => (W.2.2.2.2.2.2.2.2.2.1 k hk).cong (Nat.le_refl _) (fun j h1 h2 => ag j (Or.inr (Or.inl ⟨by omega, by omega⟩)))) F2 hp8 F1
            have P3 := P2.kept ha51 (KpT.sm2 sm9 f254 f255 rfl rfl)
            have G9 : Gr a [6, 12, 13, 14] 5 27 h h265 := Gr.wide (Gr.sm (Gr.wide (m := a) sm264 (fun x _ hx => hx) (by omega) (Nat.le_refl _) (Nat.le_refl _)) sm9 (fun x hx => Or.inr (by simp at hx; omega))) (fun x _ hx => hx) (Nat.le_refl _) (by decide) (by decide)
            have f267 := sm9.at f253 (by first | decide | (simp; omega) | simp | omega)
            have f268 := sm9.at f256 (by first | decide | (simp; omega) | simp | omega)
            have f269 := sm9.at f257 (by first | decide | (simp; omega) | simp | omega)
            have f270 := sm9.at f258 (by first | decide | (simp; omega) | simp | omega)
            have f271 := sm9.at f259 (by first | decide | (simp; omega) | simp | omega)
            have f272 := sm9.at f260 (by first | decide | (simp; omega) | simp | omega)
            have f273 := sm9.at f261 (by first | decide | (simp; omega) | simp | omega)
            have f274 := sm9.at a249 (by first | decide | (simp; omega) | simp | omega)
            have f275 := sm9.at f262 (by first | decide | (simp; omega) | simp | omega)
            have f276 := sm9.at f263 (by first | decide | (simp; omega) | simp | omega)
            refine x_iconst (v := 1) dX1_readFoam_121 (by decide) ?_
            exact x_zret dX1_readFoam_122 rfl rfl ⟨G9, by rw [show fomF tn tv nl c.1 i = none by unfold fomF; rw [if_neg h8, q129, hp]; show ((numOfF tn tv 5 0 100 (i + 2 + 3 * np)).or (numOfF tn tv 6 0 100 (i + 4 + 3 * np))) = _; rw [q195, ← show i + 2 + 3 * np + 2 = i + 4 + 3 * np by omega, q231]; rfl]; exact ⟨rfl, ⟨⟨_, _, (by rw [List.length_append, hN9, show i + 6 + 3 * np = i + 2 + 3 * np + 4 by omega]; exact f267)⟩, ⟨y140, _, _, _, f271, f272, f273, y147⟩⟩, ha51, _, (va_up Z.1 c.1 (some q150), Z.2.1, Z.2.2.1, Z.2.2.2), g0, g1, f268, f269, f270, P3⟩⟩
          | some fl232 =>
            rw [q231] at e230
            obtain ⟨e0, v277, v278, g234⟩ := e230
            cases e0
            refine x_if_ne (tgt := 108) dX1_readFoam_103 (by decide) (fun c_103 => absurd (by decide) c_103) (fun c_103 => ?_)
            refine x_iconst (v := 0) dX1_readFoam_106 (by decide) ?_
            exact x_zret dX1_readFoam_107 rfl rfl ⟨Gr.wide (m := a) sm246 (fun x _ hx => hx) (by omega) (by decide) (by decide), by rw [show fomF tn tv nl c.1 i = some fl232 by unfold fomF; rw [if_neg h8, q129, hp]; show ((numOfF tn tv 5 0 100 (i + 2 + 3 * np)).or (numOfF tn tv 6 0 100 (i + 4 + 3 * np))) = _; rw [q195, ← show i + 2 + 3 * np + 2 = i + 4 + 3 * np by omega, q231]; rfl]; exact ⟨rfl, ⟨_, _, _, g234⟩, _, _, _, f240, f241, f242⟩⟩
        | some fl196 =>
          rw [q195] at e194
          obtain ⟨e0, v280, v281, g198⟩ := e194
          cases e0
          refine x_if_ne (tgt := 86) dX1_readFoam_81 (by decide) (fun c_81 => absurd (by decide) c_81) (fun c_81 => ?_)
          refine x_iconst (v := 0) dX1_readFoam_84 (by decide) ?_
          exact x_zret dX1_readFoam_85 rfl rfl ⟨Gr.wide (m := a) sm210 (fun x _ hx => hx) (by omega) (by decide) (by decide), by rw [show fomF tn tv nl c.1 i = some fl196 by unfold fomF; rw [if_neg h8, q129, hp]; show ((numOfF tn tv 5 0 100 (i + 2 + 3 * np)).or (numOfF tn tv 6 0 100 (i + 4 + 3 * np))) = _; rw [q195]; rfl]; exact ⟨rfl, ⟨_, _, _, g198⟩, _, _, _, f204, f205, f206⟩⟩
      · have G7 := Gr.sm sm183 sm7 (in6q (by omega))
        refine ⟨Gr.wide (m := a) G7 (fun x _ hx => hx) (by omega) (by decide) (by decide), ?_⟩
        rw [show fomF tn tv nl c.1 i = some f by unfold fomF; rw [if_neg h8, q129, hp]; rfl]
        exact ⟨rfl, bd, _, _, _, sm7.at f180 (by simp; omega), sm7.at f181 (by simp; omega), sm7.at f182 (by simp; omega)⟩
    | some fl130 =>
      rw [q129] at e128
      obtain ⟨e0, v283, g132, sx284⟩ := e128
      cases e0
      have sx284 : Sm [6] h114 h127 := sx284
      have f285 := sx284.at f120 (by decide)
      have f286 := sx284.at f121 (by decide)
      have f287 := sx284.at f122 (by decide)
      refine x_if_ne (tgt := 27) dX1_readFoam_22 (by decide) (fun c_22 => absurd (by decide) c_22) (fun c_22 => ?_)
      refine x_iconst (v := 0) dX1_readFoam_25 (by decide) ?_
      exact x_zret dX1_readFoam_26 rfl rfl ⟨Gr.wide (m := a) sm138 (fun x _ hx => hx) (by omega) (by decide) (by decide), by rw [show fomF tn tv nl c.1 i = some fl130 by unfold fomF; rw [if_neg h8, q129]; rfl]; exact ⟨rfl, ⟨_, _, _, g132⟩, _, _, _, f285, f286, f287⟩⟩

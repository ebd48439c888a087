set_option maxRecDepth 100000 in
set_option maxHeartbeats 4000000 in
theorem l_zero {G : GT} {h0 : List PE} {c : CN} {cell : PE} {fs : List Value} {bk : Nat → Int32} {Q : OT → Prop} (w3 : c.2.1 ≤ 8) (hc3 : c.2.1 < 8) (e36 : ∃ thr tpd tdy bks siz too frm knd num sgn flt plc wrd tld now lst pfo thk are brk ipd bst, cell = cO 12 (MO thr tpd tdy bks siz too frm knd num sgn flt plc wrd tld now lst pfo thk are brk ipd bst)) (f36 : h0[36]? = some cell) (KX : ∀ h, Sm [38] h0 h → h[38]? = some (cI 10164 (zrF bk (484 * 20 + (164 + 24 * c.2.1)) 24)) → X (NF G) G mX12_readThing 4 90 77 [(2, .int (nI (164 + 24 * c.2.1))), (0, .ref 36)] [] h Q) : ∀ (m k : Nat) (h : List PE), 24 - k = m → k ≤ 24 → Sm [38] h0 h → h[38]? = some (cI 10164 (zrF bk (484 * 20 + (164 + 24 * c.2.1)) k)) → X (NF G) G mX12_readThing 4 90 50 [(3, .int (nI k)), (2, .int (nI (164 + 24 * c.2.1))), (0, .ref 36)] [] h Q := by
  obtain ⟨thr, tpd, tdy, bks, siz, too, frm, knd, num, sgn, flt, plc, wrd, tld, now, lst, pfo, thk, are, brk, ipd, bst, rfl⟩ := e36
  intro m
  induction m with
  | zero =>
    intro k h hm hk sm f38
    have ek : k = 24 := by omega
    subst ek
    have g36 := sm.at f36 (by decide)
    refine x_iload_n dX12_readThing_50 0 rfl ?_
    refine x_bipush (v := 24) dX12_readThing_51 (by decide) ?_
    refine x_icmp_geN (tgt := 77) (a := 24) (b := 24) (by omega) (by omega) dX12_readThing_53 (by decide) (fun c_53 => ?_) (fun c_53 => absurd (by omega) c_53)
    refine x_perm [1, 2] rfl ?_
    exact KX h sm f38
  | succ m ih =>
    intro k h hm hk sm f38
    have g36 := sm.at f36 (by decide)
    refine x_iload_n dX12_readThing_50 0 rfl ?_
    refine x_bipush (v := 24) dX12_readThing_51 (by decide) ?_
    refine x_icmp_geN (tgt := 77) (a := k) (b := 24) (by omega) (by omega) dX12_readThing_53 (by decide) (fun c_53 => absurd c_53 (by omega)) (fun c_53 => ?_)
    refine x_aload_n dX12_readThing_56 2 rfl ?_
    refine x_get (v := .ref 38) dX12_readThing_57 fX12_13 g36 (by decide) rfl ?_
    refine x_bipush (v := 20) dX12_readThing_60 (by decide) ?_
    refine x_callS (rf' := 0) (rl' := 0) [.int 20] [.ref 38] dX12_readThing_62 vX12_154 Y_X12_at rfl rfl (Nat.le_of_ble_eq_true rfl) (Nat.le_of_ble_eq_true rfl) (by decide) (by decide) (c_at (b := 20)) (fun _ _ e101 => ?_)
    cases e101
    refine x_iload_n dX12_readThing_65 1 rfl ?_
    refine x_iaddN (a := (484 * 20)) (b := (164 + 24 * c.2.1)) dX12_readThing_66 ?_
    refine x_iload_n dX12_readThing_67 0 rfl ?_
    refine x_iaddN (a := ((484 * 20) + (164 + 24 * c.2.1))) (b := k) dX12_readThing_68 ?_
    refine x_iconst (v := 0) dX12_readThing_69 (by decide) ?_
    refine x_iastN (i := (((484 * 20) + (164 + 24 * c.2.1)) + k)) dX12_readThing_70 f38 (by decide) (by omega) (by decide) (fun h102 a103 e104 l105 s106 => ?_)
    have f107 := (e104 36 (by decide)).trans g36
    have sm108 := Sm.put sm e104 l105 s106 (by decide)
    refine x_iincN (lv2 := [(3, .int (nI (k + 1))), (2, .int (nI (164 + 24 * c.2.1))), (0, .ref 36)]) dX12_readThing_71 0 rfl (by decide) rfl ?_
    refine x_goto (tgt := 50) dX12_readThing_74 (by decide) ?_
    refine x_perm [0, 1, 2] rfl ?_
    exact ih (k + 1) h102 (by omega) (by omega) sm108 (by rw [← zr_1]; exact a103)

set_option maxRecDepth 100000 in
set_option maxHeartbeats 4000000 in
theorem m_readThing {G : GT} {h : List PE} {tn : Nat} {tv : Nat → Nat} {mtp : Nat → Int32} {flt plc tld too frm knd num sgn : Int32} {wrd : Int64} {x : Nat → Int32} {i : Nat} (htn : tn ≤ 640) (hv : ∀ j, j < tn → tv j < 256) (hmt : ∀ j, j < tn → mtp j = nI (tv j)) (tk : TkM tn tv i too frm knd num sgn wrd) {bk R : Nat → Int32} {nm : Nat → Int64} {nl : NL'} {c : CN} (f36 : h[36]? = some (cO 12 (MO ((x 0)) ((x 1)) ((x 2)) ((x 3)) ((nI tn)) too frm knd num sgn flt plc wrd tld ((x 4)) ((x 5)) ((x 6)) ((x 7)) ((x 8)) ((x 9)) ((x 10)) ((x 11))))) (f37 : h[37]? = some (cI 640 mtp)) (f38 : h[38]? = some (cI 10164 bk)) (f40 : h[40]? = some (cJ 24 nm)) (hR : ∀ j, j < 484 → bk (484 * 20 + j) = R j) (hnp : NmP nm nl c) (W : WFk R c) (hnl : NlOk nl c) (hk : kd tn tv i = 1)  : CT G mX12_readThing 4 90 [.ref 36] h (MLn h (thgF tn tv nl c.2.1 i) tn tv (i + 10) x flt plc bk (thgR tn tv c.2.1 i R) (nl ++ [(1, c.2.1, wn tn tv (i + 1))]) (c.1, c.2.1 + 1, c.2.2.1, c.2.2.2)) := by
  have hRs := rsort hR W
  have w8 := wf8 W
  have w1 := W.2.1
  have w3 := W.2.2.2.1
  have w5 := W.2.2.2.2.2.1
  have w7 := W.2.2.2.2.2.2.2.1
  have sm0 : Sm [36, 38, 40] h h := Sm.rf
  show X (NF G) G mX12_readThing 4 90 0 [(0, .ref 36)] [] h _
  refine x_aload_n dX12_readThing_0 0 rfl ?_
  refine x_get (v := .ref 38) dX12_readThing_1 fX12_13 f36 (by decide) rfl ?_
  refine x_bipush (v := 20) dX12_readThing_4 (by decide) ?_
  refine x_callS (rf' := 0) (rl' := 0) [.int 20] [.ref 38] dX12_readThing_6 vX12_154 Y_X12_at rfl rfl (Nat.le_of_ble_eq_true rfl) (Nat.le_of_ble_eq_true rfl) (by decide) (by decide) (c_at (b := 20)) (fun _ _ e101 => ?_)
  cases e101
  refine x_iconst (v := 1) dX12_readThing_9 (by decide) ?_
  refine x_iaddN (a := (484 * 20)) (b := 1) dX12_readThing_10 ?_
  refine x_ialdN (i := ((484 * 20) + 1)) dX12_readThing_11 f38 (by decide) (by omega) (by decide) ?_
  rw [show (bk (((484 * 20) + 1))) = nI (c.2.1) from (by exact hRs 1 (by decide))]
  refine x_istore_n (lv2 := [(1, .int (nI (c.2.1))), (0, .ref 36)]) dX12_readThing_12 (by decide) rfl ?_
  refine x_iload_n dX12_readThing_13 0 rfl ?_
  refine x_bipush (v := 8) dX12_readThing_14 (by decide) ?_
  refine x_icmp_neN (tgt := 25) (a := (c.2.1)) (b := 8) (by omega) (by omega) dX12_readThing_16 (by decide) (fun c_16 => ?_) (fun c_16 => ?_)
  · refine x_aload_n dX12_readThing_25 1 rfl ?_
    refine x_callV (rf' := 1) (rl' := 21) [] [] dX12_readThing_26 vX12_148 Y_X12_go f36 (by decide) rfl rfl (Nat.le_of_ble_eq_true rfl) (Nat.le_of_ble_eq_true rfl) (by decide) (by decide) (c_goN htn hv hmt tk f36 f37 (by omega)) (fun r h102 e103 => ?_)
    obtain ⟨e0, m105, sm104⟩ := e103
    cases e0
    have sm104 : Sm [36] h h102 := sm104
    have f106 := sm104.at f37 (by decide)
    have f107 := sm104.at f38 (by decide)
    have f108 := sm104.at f40 (by decide)
    have sm109 := sm0.tr (sm104.wide (by decide))
    obtain ⟨m110, m111, m112, m113, m114, m115, f116, tk117⟩ := m105
    have f116 : h102[36]? = some (cO 12 (MO ((x 0)) ((x 1)) ((x 2)) ((x 3)) ((nI tn)) m110 m111 m112 m113 m114 flt plc m115 tld ((x 4)) ((x 5)) ((x 6)) ((x 7)) ((x 8)) ((x 9)) ((x 10)) ((x 11)))) := f116
    have tk117 : TkM tn tv (i + 1) m110 m111 m112 m113 m114 m115 := tk117
    refine x_aload_n dX12_readThing_29 1 rfl ?_
    refine x_iconst (v := 1) dX12_readThing_30 (by decide) ?_
    refine x_callV (rf' := 3) (rl' := 66) [.int 1] [] dX12_readThing_31 vX12_174 Y_X12_readName f116 (by decide) rfl rfl (Nat.le_of_ble_eq_true rfl) (Nat.le_of_ble_eq_true rfl) (by decide) (by decide) (c_readNameM (k := 1) htn hv hmt tk117 f116 f106 f107 f108 hRs hnp w8 (by decide) (show c.2.1 < 8 by omega)) (fun r h118 e119 => ?_)
    obtain ⟨sm122, e119⟩ := e119
    have sm122 : Sm [36, 40] h102 h118 := sm122
    have f124 := sm122.at f106 (by decide)
    have f125 := sm122.at f107 (by decide)
    have sm126 := sm109.tr (sm122.wide (by decide))
    cases q120 : newF tn tv nl (i + 1) with
    | none =>
      rw [q120] at e119
      obtain ⟨e0, m123, x127, x128⟩ := e119
      cases e0
      obtain ⟨m129, m130, m131, m132, m133, m134, f135, tk136⟩ := m123
      have f135 : h118[36]? = some (cO 12 (MO ((x 0)) ((x 1)) ((x 2)) ((x 3)) ((nI tn)) m129 m130 m131 m132 m133 flt plc m134 tld ((x 4)) ((x 5)) ((x 6)) ((x 7)) ((x 8)) ((x 9)) ((x 10)) ((x 11)))) := f135
      have tk136 : TkM tn tv (i + 2) m129 m130 m131 m132 m133 m134 := tk136
      have x127 : h118[40]? = some (cJ 24 ((vp_updL nm (8 * 1 + cS c 1) (lN (wn tn tv (i + 1)))))) := x127
      have kkq120 := newE q120
      refine x_if_ne (tgt := 39) dX12_readThing_34 (by decide) (fun c_34 => ?_) (fun c_34 => absurd c_34 (by decide))
      refine x_sipush (v := 164) dX12_readThing_39 (by decide) ?_
      refine x_bipush (v := 24) dX12_readThing_42 (by decide) ?_
      refine x_iload_n dX12_readThing_44 0 rfl ?_
      refine x_imulN (a := 24) (b := (c.2.1)) dX12_readThing_45 ?_
      refine x_iaddN (a := 164) (b := (24 * (c.2.1))) dX12_readThing_46 ?_
      refine x_istore_n (lv2 := [(2, .int (nI (164 + (24 * (c.2.1))))), (1, .int (nI (c.2.1))), (0, .ref 36)]) dX12_readThing_47 (by decide) rfl ?_
      refine x_iconst (v := 0) dX12_readThing_48 (by decide) ?_
      refine x_istore_n (lv2 := [(3, .int 0), (2, .int (nI (164 + (24 * (c.2.1))))), (1, .int (nI (c.2.1))), (0, .ref 36)]) dX12_readThing_49 (by decide) rfl ?_
      refine x_perm (lv2 := [(3, .int (nI 0)), (2, .int (nI (164 + 24 * c.2.1))), (0, .ref 36)]) [0, 1, 3] rfl ?_
      refine l_zero (h0 := h118) (bk := bk) (fs := []) w3 (by omega) ⟨_, _, _, _, _, _, _, _, _, _, _, _, _, _, _, _, _, _, _, _, _, _, rfl⟩ f135 (fun h137 smz z38 => ?_) 24 0 h118 rfl (by decide) Sm.rf (by rw [zr_0]; exact f125)
      have f138 := smz.at f135 (by decide)
      have f139 := smz.at f124 (by decide)
      have f140 := smz.at x127 (by decide)
      have sm141 := sm126.tr (smz.wide (by decide))
      refine x_aload_n dX12_readThing_77 1 rfl ?_
      refine x_callS (rf' := 1) (rl' := 26) [] [.ref 36] dX12_readThing_78 vX12_135 Y_X12_weighs rfl rfl (Nat.le_of_ble_eq_true rfl) (Nat.le_of_ble_eq_true rfl) (by decide) (by decide) c_weighs (fun _ _ e142 => ?_)
      cases e142
      refine x_callV (rf' := 2) (rl' := 45) [.long (lN (k27 7))] [] dX12_readThing_81 vX12_180 Y_X12_readKey f138 (by decide) rfl rfl (Nat.le_of_ble_eq_true rfl) (Nat.le_of_ble_eq_true rfl) (by decide) (by decide) (c_readKey (n := 7) (by decide) htn hv hmt tk136 f138 f139) (fun r h143 e144 => ?_)
      obtain ⟨sm147, e144⟩ := e144
      have sm147 : Sm [36] h137 h143 := sm147
      have f149 := sm147.at f139 (by decide)
      have f150 := sm147.at z38 (by decide)
      have f151 := sm147.at f140 (by decide)
      have sm152 := sm141.tr (sm147.wide (by decide))
      cases q145 : tokF tn tv 7 (i + 2) with
      | none =>
        rw [q145] at e144
        obtain ⟨e0, m148⟩ := e144
        cases e0
        obtain ⟨m153, m154, m155, m156, m157, m158, f159, tk160⟩ := m148
        have f159 : h143[36]? = some (cO 12 (MO ((x 0)) ((x 1)) ((x 2)) ((x 3)) ((nI tn)) m153 m154 m155 m156 m157 flt plc m158 tld ((x 4)) ((x 5)) ((x 6)) ((x 7)) ((x 8)) ((x 9)) ((x 10)) ((x 11)))) := f159
        have tk160 : TkM tn tv (i + 3) m153 m154 m155 m156 m157 m158 := tk160
        have kkq145 := tokE q145
        refine x_if_eq (tgt := 117) dX12_readThing_84 (by decide) (fun c_84 => absurd c_84 (by decide)) (fun c_84 => ?_)
        refine x_aload_n dX12_readThing_87 1 rfl ?_
        refine x_iload_n dX12_readThing_88 0 rfl ?_
        refine x_iconst (v := 1) dX12_readThing_89 (by decide) ?_
        refine x_ldc (v := 60000) dX12_readThing_90 kX12_173 ?_
        refine x_callV (rf' := 3) (rl' := 67) [.int (nI (164 + 24 * c.2.1)), .int 1, .int 60000] [] dX12_readThing_92 vX12_167 Y_X12_readInto f159 (by decide) rfl rfl (Nat.le_of_ble_eq_true rfl) (Nat.le_of_ble_eq_true rfl) (by decide) (by decide) (c_readInto (p := (164 + 24 * c.2.1)) (a := 1) (b := 60000) htn hv hmt tk160 f159 f149 f150 (by omega)) (fun r h161 e162 => ?_)
        obtain ⟨sm165, e162⟩ := e162
        have sm165 : Sm [36, 38] h143 h161 := sm165
        have f167 := sm165.at f149 (by decide)
        have f168 := sm165.at f151 (by decide)
        have sm169 := sm152.tr (sm165.wide (by decide))
        cases q163 : numF tn tv 1 60000 (i + 3) with
        | none =>
          rw [q163] at e162
          obtain ⟨e0, m166, x170⟩ := e162
          cases e0
          obtain ⟨m171, m172, m173, m174, m175, m176, f177, tk178⟩ := m166
          have f177 : h161[36]? = some (cO 12 (MO ((x 0)) ((x 1)) ((x 2)) ((x 3)) ((nI tn)) m171 m172 m173 m174 m175 flt plc m176 ((nI (nv tn tv (i + 3)))) ((x 4)) ((x 5)) ((x 6)) ((x 7)) ((x 8)) ((x 9)) ((x 10)) ((x 11)))) := f177
          have tk178 : TkM tn tv (i + 4) m171 m172 m173 m174 m175 m176 := tk178
          have x170 : h161[38]? = some (cI 10164 ((upd ((zrF bk (484 * 20 + (164 + 24 * c.2.1)) 24)) (484 * 20 + ((164 + 24 * c.2.1))) (nI (nv tn tv (i + 3)))))) := x170
          have kkq163 := numE q163
          refine x_if_eq (tgt := 117) dX12_readThing_95 (by decide) (fun c_95 => absurd c_95 (by decide)) (fun c_95 => ?_)
          refine x_aload_n dX12_readThing_98 1 rfl ?_
          refine x_bipush (v := 115) dX12_readThing_99 (by decide) ?_
          refine x_bipush (v := 105) dX12_readThing_101 (by decide) ?_
          refine x_bipush (v := 122) dX12_readThing_103 (by decide) ?_
          refine x_bipush (v := 101) dX12_readThing_105 (by decide) ?_
          refine x_iconst (v := 0) dX12_readThing_107 (by decide) ?_
          refine x_callS (rf' := 0) (rl' := 0) [.int 115, .int 105, .int 122, .int 101, .int 0] [.ref 36] dX12_readThing_108 vX12_109 Y_X12_spelt rfl rfl (Nat.le_of_ble_eq_true rfl) (Nat.le_of_ble_eq_true rfl) (by decide) (by decide) c_spelt8 (fun _ _ e179 => ?_)
          cases e179
          refine x_callV (rf' := 2) (rl' := 45) [.long (lN (k27 8))] [] dX12_readThing_111 vX12_180 Y_X12_readKey f177 (by decide) rfl rfl (Nat.le_of_ble_eq_true rfl) (Nat.le_of_ble_eq_true rfl) (by decide) (by decide) (c_readKey (n := 8) (by decide) htn hv hmt tk178 f177 f167) (fun r h180 e181 => ?_)
          obtain ⟨sm184, e181⟩ := e181
          have sm184 : Sm [36] h161 h180 := sm184
          have f186 := sm184.at f167 (by decide)
          have f187 := sm184.at x170 (by decide)
          have f188 := sm184.at f168 (by decide)
          have sm189 := sm169.tr (sm184.wide (by decide))
          cases q182 : tokF tn tv 8 (i + 4) with
          | none =>
            rw [q182] at e181
            obtain ⟨e0, m185⟩ := e181
            cases e0
            obtain ⟨m190, m191, m192, m193, m194, m195, f196, tk197⟩ := m185
            have f196 : h180[36]? = some (cO 12 (MO ((x 0)) ((x 1)) ((x 2)) ((x 3)) ((nI tn)) m190 m191 m192 m193 m194 flt plc m195 ((nI (nv tn tv (i + 3)))) ((x 4)) ((x 5)) ((x 6)) ((x 7)) ((x 8)) ((x 9)) ((x 10)) ((x 11)))) := f196
            have tk197 : TkM tn tv (i + 5) m190 m191 m192 m193 m194 m195 := tk197
            have kkq182 := tokE q182
            refine x_if_ne (tgt := 119) dX12_readThing_114 (by decide) (fun c_114 => ?_) (fun c_114 => absurd c_114 (by decide))
            refine x_iconst (v := 1) dX12_readThing_119 (by decide) ?_
            refine x_istore_n (lv2 := [(3, .int 1), (2, .int (nI (164 + 24 * c.2.1))), (0, .ref 36)]) dX12_readThing_120 (by decide) rfl ?_
            refine x_iload_n dX12_readThing_121 0 rfl ?_
            refine x_iconst (v := 4) dX12_readThing_122 (by decide) ?_
            refine x_icmp_ge (tgt := 148) dX12_readThing_123 (by decide) (fun c_123 => absurd c_123 (by decide)) (fun c_123 => ?_)
            refine x_aload_n dX12_readThing_126 2 rfl ?_
            refine x_iload_n dX12_readThing_127 1 rfl ?_
            refine x_iload_n dX12_readThing_128 0 rfl ?_
            refine x_iaddN (a := (164 + 24 * c.2.1)) (b := 1) dX12_readThing_129 ?_
            refine x_iconst (v := 1) dX12_readThing_130 (by decide) ?_
            refine x_sipush (v := 9999) dX12_readThing_131 (by decide) ?_
            refine x_callV (rf' := 3) (rl' := 67) [.int (nI ((164 + 24 * c.2.1) + 1)), .int 1, .int 9999] [] dX12_readThing_134 vX12_167 Y_X12_readInto f196 (by decide) rfl rfl (Nat.le_of_ble_eq_true rfl) (Nat.le_of_ble_eq_true rfl) (by decide) (by decide) (c_readInto (p := ((164 + 24 * c.2.1) + 1)) (a := 1) (b := 9999) htn hv hmt tk197 f196 f186 f187 (by omega)) (fun r h198 e199 => ?_)
            obtain ⟨sm202, e199⟩ := e199
            have sm202 : Sm [36, 38] h180 h198 := sm202
            have f204 := sm202.at f186 (by decide)
            have f205 := sm202.at f188 (by decide)
            have sm206 := sm189.tr (sm202.wide (by decide))
            cases q200 : numF tn tv 1 9999 (i + 5) with
            | none =>
              rw [q200] at e199
              obtain ⟨e0, m203, x207⟩ := e199
              cases e0
              obtain ⟨m208, m209, m210, m211, m212, m213, f214, tk215⟩ := m203
              have f214 : h198[36]? = some (cO 12 (MO ((x 0)) ((x 1)) ((x 2)) ((x 3)) ((nI tn)) m208 m209 m210 m211 m212 flt plc m213 ((nI (nv tn tv (i + 5)))) ((x 4)) ((x 5)) ((x 6)) ((x 7)) ((x 8)) ((x 9)) ((x 10)) ((x 11)))) := f214
              have tk215 : TkM tn tv (i + 6) m208 m209 m210 m211 m212 m213 := tk215
              have x207 : h198[38]? = some (cI 10164 ((upd ((upd ((zrF bk (484 * 20 + (164 + 24 * c.2.1)) 24)) (484 * 20 + ((164 + 24 * c.2.1))) (nI (nv tn tv (i + 3))))) (484 * 20 + (((164 + 24 * c.2.1) + 1))) (nI (nv tn tv (i + 5)))))) := x207
              have kkq200 := numE q200
              refine x_if_ne (tgt := 142) dX12_readThing_137 (by decide) (fun c_137 => ?_) (fun c_137 => absurd c_137 (by decide))
              refine x_iinc (lv2 := [(3, .int 2), (2, .int (nI (164 + 24 * c.2.1))), (0, .ref 36)]) dX12_readThing_142 0 rfl (by decide) (by decide) rfl ?_
              refine x_goto (tgt := 121) dX12_readThing_145 (by decide) ?_
              refine x_iload_n dX12_readThing_121 0 rfl ?_
              refine x_iconst (v := 4) dX12_readThing_122 (by decide) ?_
              refine x_icmp_ge (tgt := 148) dX12_readThing_123 (by decide) (fun c_123 => absurd c_123 (by decide)) (fun c_123 => ?_)
              refine x_aload_n dX12_readThing_126 2 rfl ?_
              refine x_iload_n dX12_readThing_127 1 rfl ?_
              refine x_iload_n dX12_readThing_128 0 rfl ?_
              refine x_iaddN (a := (164 + 24 * c.2.1)) (b := 2) dX12_readThing_129 ?_
              refine x_iconst (v := 1) dX12_readThing_130 (by decide) ?_
              refine x_sipush (v := 9999) dX12_readThing_131 (by decide) ?_
              refine x_callV (rf' := 3) (rl' := 67) [.int (nI ((164 + 24 * c.2.1) + 2)), .int 1, .int 9999] [] dX12_readThing_134 vX12_167 Y_X12_readInto f214 (by decide) rfl rfl (Nat.le_of_ble_eq_true rfl) (Nat.le_of_ble_eq_true rfl) (by decide) (by decide) (c_readInto (p := ((164 + 24 * c.2.1) + 2)) (a := 1) (b := 9999) htn hv hmt tk215 f214 f204 x207 (by omega)) (fun r h216 e217 => ?_)
              obtain ⟨sm220, e217⟩ := e217
              have sm220 : Sm [36, 38] h198 h216 := sm220
              have f222 := sm220.at f204 (by decide)
              have f223 := sm220.at f205 (by decide)
              have sm224 := sm206.tr (sm220.wide (by decide))
              cases q218 : numF tn tv 1 9999 (i + 6) with
              | none =>
                rw [q218] at e217
                obtain ⟨e0, m221, x225⟩ := e217
                cases e0
                obtain ⟨m226, m227, m228, m229, m230, m231, f232, tk233⟩ := m221
                have f232 : h216[36]? = some (cO 12 (MO ((x 0)) ((x 1)) ((x 2)) ((x 3)) ((nI tn)) m226 m227 m228 m229 m230 flt plc m231 ((nI (nv tn tv (i + 6)))) ((x 4)) ((x 5)) ((x 6)) ((x 7)) ((x 8)) ((x 9)) ((x 10)) ((x 11)))) := f232
                have tk233 : TkM tn tv (i + 7) m226 m227 m228 m229 m230 m231 := tk233
                have x225 : h216[38]? = some (cI 10164 ((upd ((upd ((upd ((zrF bk (484 * 20 + (164 + 24 * c.2.1)) 24)) (484 * 20 + ((164 + 24 * c.2.1))) (nI (nv tn tv (i + 3))))) (484 * 20 + (((164 + 24 * c.2.1) + 1))) (nI (nv tn tv (i + 5))))) (484 * 20 + (((164 + 24 * c.2.1) + 2))) (nI (nv tn tv (i + 6)))))) := x225
                have kkq218 := numE q218
                refine x_if_ne (tgt := 142) dX12_readThing_137 (by decide) (fun c_137 => ?_) (fun c_137 => absurd c_137 (by decide))
                refine x_iinc (lv2 := [(3, .int 3), (2, .int (nI (164 + 24 * c.2.1))), (0, .ref 36)]) dX12_readThing_142 0 rfl (by decide) (by decide) rfl ?_
                refine x_goto (tgt := 121) dX12_readThing_145 (by decide) ?_
                refine x_iload_n dX12_readThing_121 0 rfl ?_
                refine x_iconst (v := 4) dX12_readThing_122 (by decide) ?_
                refine x_icmp_ge (tgt := 148) dX12_readThing_123 (by decide) (fun c_123 => absurd c_123 (by decide)) (fun c_123 => ?_)
                refine x_aload_n dX12_readThing_126 2 rfl ?_
                refine x_iload_n dX12_readThing_127 1 rfl ?_
                refine x_iload_n dX12_readThing_128 0 rfl ?_
                refine x_iaddN (a := (164 + 24 * c.2.1)) (b := 3) dX12_readThing_129 ?_
                refine x_iconst (v := 1) dX12_readThing_130 (by decide) ?_
                refine x_sipush (v := 9999) dX12_readThing_131 (by decide) ?_
                refine x_callV (rf' := 3) (rl' := 67) [.int (nI ((164 + 24 * c.2.1) + 3)), .int 1, .int 9999] [] dX12_readThing_134 vX12_167 Y_X12_readInto f232 (by decide) rfl rfl (Nat.le_of_ble_eq_true rfl) (Nat.le_of_ble_eq_true rfl) (by decide) (by decide) (c_readInto (p := ((164 + 24 * c.2.1) + 3)) (a := 1) (b := 9999) htn hv hmt tk233 f232 f222 x225 (by omega)) (fun r h234 e235 => ?_)
                obtain ⟨sm238, e235⟩ := e235
                have sm238 : Sm [36, 38] h216 h234 := sm238
                have f240 := sm238.at f222 (by decide)
                have f241 := sm238.at f223 (by decide)
                have sm242 := sm224.tr (sm238.wide (by decide))
                cases q236 : numF tn tv 1 9999 (i + 7) with
                | none =>
                  rw [q236] at e235
                  obtain ⟨e0, m239, x243⟩ := e235
                  cases e0
                  obtain ⟨m244, m245, m246, m247, m248, m249, f250, tk251⟩ := m239
                  have f250 : h234[36]? = some (cO 12 (MO ((x 0)) ((x 1)) ((x 2)) ((x 3)) ((nI tn)) m244 m245 m246 m247 m248 flt plc m249 ((nI (nv tn tv (i + 7)))) ((x 4)) ((x 5)) ((x 6)) ((x 7)) ((x 8)) ((x 9)) ((x 10)) ((x 11)))) := f250
                  have tk251 : TkM tn tv (i + 8) m244 m245 m246 m247 m248 m249 := tk251
                  have x243 : h234[38]? = some (cI 10164 ((upd ((upd ((upd ((upd ((zrF bk (484 * 20 + (164 + 24 * c.2.1)) 24)) (484 * 20 + ((164 + 24 * c.2.1))) (nI (nv tn tv (i + 3))))) (484 * 20 + (((164 + 24 * c.2.1) + 1))) (nI (nv tn tv (i + 5))))) (484 * 20 + (((164 + 24 * c.2.1) + 2))) (nI (nv tn tv (i + 6))))) (484 * 20 + (((164 + 24 * c.2.1) + 3))) (nI (nv tn tv (i + 7)))))) := x243
                  have kkq236 := numE q236
                  refine x_if_ne (tgt := 142) dX12_readThing_137 (by decide) (fun c_137 => ?_) (fun c_137 => absurd c_137 (by decide))
                  refine x_iinc (lv2 := [(3, .int 4), (2, .int (nI (164 + 24 * c.2.1))), (0, .ref 36)]) dX12_readThing_142 0 rfl (by decide) (by decide) rfl ?_
                  refine x_goto (tgt := 121) dX12_readThing_145 (by decide) ?_
                  refine x_iload_n dX12_readThing_121 0 rfl ?_
                  refine x_iconst (v := 4) dX12_readThing_122 (by decide) ?_
                  refine x_icmp_ge (tgt := 148) dX12_readThing_123 (by decide) (fun c_123 => ?_) (fun c_123 => absurd (by decide) c_123)
                  refine x_aload_n dX12_readThing_148 2 rfl ?_
                  refine x_bipush (v := 109) dX12_readThing_149 (by decide) ?_
                  refine x_bipush (v := 97) dX12_readThing_151 (by decide) ?_
                  refine x_bipush (v := 114) dX12_readThing_153 (by decide) ?_
                  refine x_bipush (v := 107) dX12_readThing_155 (by decide) ?_
                  refine x_iconst (v := 0) dX12_readThing_157 (by decide) ?_
                  refine x_callS (rf' := 0) (rl' := 0) [.int 109, .int 97, .int 114, .int 107, .int 0] [.ref 36] dX12_readThing_158 vX12_109 Y_X12_spelt rfl rfl (Nat.le_of_ble_eq_true rfl) (Nat.le_of_ble_eq_true rfl) (by decide) (by decide) c_spelt9 (fun _ _ e252 => ?_)
                  cases e252
                  refine x_callV (rf' := 2) (rl' := 45) [.long (lN (k27 9))] [] dX12_readThing_161 vX12_180 Y_X12_readKey f250 (by decide) rfl rfl (Nat.le_of_ble_eq_true rfl) (Nat.le_of_ble_eq_true rfl) (by decide) (by decide) (c_readKey (n := 9) (by decide) htn hv hmt tk251 f250 f240) (fun r h253 e254 => ?_)
                  obtain ⟨sm257, e254⟩ := e254
                  have sm257 : Sm [36] h234 h253 := sm257
                  have f259 := sm257.at f240 (by decide)
                  have f260 := sm257.at x243 (by decide)
                  have f261 := sm257.at f241 (by decide)
                  have sm262 := sm242.tr (sm257.wide (by decide))
                  cases q255 : tokF tn tv 9 (i + 8) with
                  | none =>
                    rw [q255] at e254
                    obtain ⟨e0, m258⟩ := e254
                    cases e0
                    obtain ⟨m263, m264, m265, m266, m267, m268, f269, tk270⟩ := m258
                    have f269 : h253[36]? = some (cO 12 (MO ((x 0)) ((x 1)) ((x 2)) ((x 3)) ((nI tn)) m263 m264 m265 m266 m267 flt plc m268 ((nI (nv tn tv (i + 7)))) ((x 4)) ((x 5)) ((x 6)) ((x 7)) ((x 8)) ((x 9)) ((x 10)) ((x 11)))) := f269
                    have tk270 : TkM tn tv (i + 9) m263 m264 m265 m266 m267 m268 := tk270
                    have kkq255 := tokE q255
                    refine x_if_eq (tgt := 180) dX12_readThing_164 (by decide) (fun c_164 => absurd c_164 (by decide)) (fun c_164 => ?_)
                    refine x_aload_n dX12_readThing_167 2 rfl ?_
                    refine x_iload_n dX12_readThing_168 1 rfl ?_
                    refine x_iconst (v := 4) dX12_readThing_169 (by decide) ?_
                    refine x_iaddN (a := (164 + 24 * c.2.1)) (b := 4) dX12_readThing_170 ?_
                    refine x_iconst (v := 1) dX12_readThing_171 (by decide) ?_
                    refine x_ldc (v := 60000) dX12_readThing_172 kX12_173 ?_
                    refine x_callV (rf' := 3) (rl' := 67) [.int (nI ((164 + 24 * c.2.1) + 4)), .int 1, .int 60000] [] dX12_readThing_174 vX12_167 Y_X12_readInto f269 (by decide) rfl rfl (Nat.le_of_ble_eq_true rfl) (Nat.le_of_ble_eq_true rfl) (by decide) (by decide) (c_readInto (p := ((164 + 24 * c.2.1) + 4)) (a := 1) (b := 60000) htn hv hmt tk270 f269 f259 f260 (by omega)) (fun r h271 e272 => ?_)
                    obtain ⟨sm275, e272⟩ := e272
                    have sm275 : Sm [36, 38] h253 h271 := sm275
                    have f277 := sm275.at f259 (by decide)
                    have f278 := sm275.at f261 (by decide)
                    have sm279 := sm262.tr (sm275.wide (by decide))
                    cases q273 : numF tn tv 1 60000 (i + 9) with
                    | none =>
                      rw [q273] at e272
                      obtain ⟨e0, m276, x280⟩ := e272
                      cases e0
                      obtain ⟨m281, m282, m283, m284, m285, m286, f287, tk288⟩ := m276
                      have f287 : h271[36]? = some (cO 12 (MO ((x 0)) ((x 1)) ((x 2)) ((x 3)) ((nI tn)) m281 m282 m283 m284 m285 flt plc m286 ((nI (nv tn tv (i + 9)))) ((x 4)) ((x 5)) ((x 6)) ((x 7)) ((x 8)) ((x 9)) ((x 10)) ((x 11)))) := f287
                      have tk288 : TkM tn tv (i + 10) m281 m282 m283 m284 m285 m286 := tk288
                      have x280 : h271[38]? = some (cI 10164 ((upd ((upd ((upd ((upd ((upd ((zrF bk (484 * 20 + (164 + 24 * c.2.1)) 24)) (484 * 20 + ((164 + 24 * c.2.1))) (nI (nv tn tv (i + 3))))) (484 * 20 + (((164 + 24 * c.2.1) + 1))) (nI (nv tn tv (i + 5))))) (484 * 20 + (((164 + 24 * c.2.1) + 2))) (nI (nv tn tv (i + 6))))) (484 * 20 + (((164 + 24 * c.2.1) + 3))) (nI (nv tn tv (i + 7))))) (484 * 20 + (((164 + 24 * c.2.1) + 4))) (nI (nv tn tv (i + 9)))))) := x280
                      have kkq273 := numE q273
                      refine x_if_ne (tgt := 182) dX12_readThing_177 (by decide) (fun c_177 => ?_) (fun c_177 => absurd c_177 (by decide))
                      refine x_aload_n dX12_readThing_182 2 rfl ?_
                      refine x_get (v := .ref 38) dX12_readThing_183 fX12_13 f287 (by decide) rfl ?_
                      refine x_bipush (v := 20) dX12_readThing_186 (by decide) ?_
                      refine x_callS (rf' := 0) (rl' := 0) [.int 20] [.ref 38] dX12_readThing_188 vX12_154 Y_X12_at rfl rfl (Nat.le_of_ble_eq_true rfl) (Nat.le_of_ble_eq_true rfl) (by decide) (by decide) (c_at (b := 20)) (fun _ _ e289 => ?_)
                      cases e289
                      refine x_iconst (v := 1) dX12_readThing_191 (by decide) ?_
                      refine x_iaddN (a := (484 * 20)) (b := 1) dX12_readThing_192 ?_
                      refine x_dup2 dX12_readThing_193 rfl rfl ?_
                      refine x_ialdN (i := ((484 * 20) + 1)) dX12_readThing_194 x280 (by decide) (by omega) (by decide) ?_
                      rw [show (((upd ((upd ((upd ((upd ((upd ((zrF bk (484 * 20 + (164 + 24 * c.2.1)) 24)) (484 * 20 + ((164 + 24 * c.2.1))) (nI (nv tn tv (i + 3))))) (484 * 20 + (((164 + 24 * c.2.1) + 1))) (nI (nv tn tv (i + 5))))) (484 * 20 + (((164 + 24 * c.2.1) + 2))) (nI (nv tn tv (i + 6))))) (484 * 20 + (((164 + 24 * c.2.1) + 3))) (nI (nv tn tv (i + 7))))) (484 * 20 + (((164 + 24 * c.2.1) + 4))) (nI (nv tn tv (i + 9))))) (((484 * 20) + 1))) = nI (c.2.1) from (by rw [pk_un (by omega)];rw [pk_un (by omega)];rw [pk_un (by omega)];rw [pk_un (by omega)];rw [pk_un (by omega)]; rw [zr_n (by omega)]; exact hRs 1 (by decide))]
                      refine x_iconst (v := 1) dX12_readThing_195 (by decide) ?_
                      refine x_iaddN (a := (c.2.1)) (b := 1) dX12_readThing_196 ?_
                      refine x_iastN (i := ((484 * 20) + 1)) dX12_readThing_197 x280 (by decide) (by omega) (by decide) (fun h290 a291 e292 l293 s294 => ?_)
                      have f295 := (e292 36 (by decide)).trans f287
                      have f296 := (e292 37 (by decide)).trans f277
                      have f297 := (e292 40 (by decide)).trans f278
                      have sm298 := Sm.put sm279 e292 l293 s294 (by decide)
                      refine x_iconst (v := 1) dX12_readThing_198 (by decide) ?_
                      exact x_zret dX12_readThing_199 rfl rfl ⟨sm298, by rw [show thgF tn tv nl c.2.1 i = none by unfold thgF numOfF szF; rw [if_neg (by omega), q120, q145, q163, q182, q200, q218, q236, q255, q273]; rfl]; exact ⟨rfl, ⟨_, ⟨_, _, _, _, _, _, f295, tk288⟩⟩, ⟨_, a291, fun j hj => by rw [pk_un (by omega)]; rw [pk_un (by omega)]; rw [pk_un (by omega)]; rw [pk_un (by omega)]; rw [pk_un (by omega)]; rw [pk_un (by omega)]; rw [zr_n (by omega)], thg_cong hR⟩, ⟨_, f297, x128⟩⟩⟩
                    | some fl274 =>
                      rw [q273] at e272
                      obtain ⟨e0, m276, sx299⟩ := e272
                      cases e0
                      have sx299 : Sm [36] h253 h271 := sx299
                      have f300 := sx299.at f260 (by decide)
                      have f301 := sx299.at f261 (by decide)
                      refine x_if_ne (tgt := 182) dX12_readThing_177 (by decide) (fun c_177 => absurd (by decide) c_177) (fun c_177 => ?_)
                      refine x_iconst (v := 0) dX12_readThing_180 (by decide) ?_
                      exact x_zret dX12_readThing_181 rfl rfl ⟨sm279, by rw [show thgF tn tv nl c.2.1 i = some fl274 by unfold thgF numOfF szF; rw [if_neg (by omega), q120, q145, q163, q182, q200, q218, q236, q255, q273]; rfl]; exact ⟨rfl, m276, ⟨_, f300, fun j hj => by rw [pk_un (by omega)]; rw [pk_un (by omega)]; rw [pk_un (by omega)]; rw [pk_un (by omega)]; rw [zr_n (by omega)]⟩, ⟨_, f301⟩⟩⟩
                  | some fl256 =>
                    rw [q255] at e254
                    obtain ⟨e0, m258⟩ := e254
                    cases e0
                    refine x_if_eq (tgt := 180) dX12_readThing_164 (by decide) (fun c_164 => ?_) (fun c_164 => absurd (by decide) c_164)
                    refine x_iconst (v := 0) dX12_readThing_180 (by decide) ?_
                    exact x_zret dX12_readThing_181 rfl rfl ⟨sm262, by rw [show thgF tn tv nl c.2.1 i = some fl256 by unfold thgF numOfF szF; rw [if_neg (by omega), q120, q145, q163, q182, q200, q218, q236, q255]; rfl]; exact ⟨rfl, m258, ⟨_, f260, fun j hj => by rw [pk_un (by omega)]; rw [pk_un (by omega)]; rw [pk_un (by omega)]; rw [pk_un (by omega)]; rw [zr_n (by omega)]⟩, ⟨_, f261⟩⟩⟩
                | some fl237 =>
                  rw [q236] at e235
                  obtain ⟨e0, m239, sx303⟩ := e235
                  cases e0
                  have sx303 : Sm [36] h216 h234 := sx303
                  have f304 := sx303.at x225 (by decide)
                  have f305 := sx303.at f223 (by decide)
                  refine x_if_ne (tgt := 142) dX12_readThing_137 (by decide) (fun c_137 => absurd (by decide) c_137) (fun c_137 => ?_)
                  refine x_iconst (v := 0) dX12_readThing_140 (by decide) ?_
                  exact x_zret dX12_readThing_141 rfl rfl ⟨sm242, by rw [show thgF tn tv nl c.2.1 i = some fl237 by unfold thgF numOfF szF; rw [if_neg (by omega), q120, q145, q163, q182, q200, q218, q236]; rfl]; exact ⟨rfl, m239, ⟨_, f304, fun j hj => by rw [pk_un (by omega)]; rw [pk_un (by omega)]; rw [pk_un (by omega)]; rw [zr_n (by omega)]⟩, ⟨_, f305⟩⟩⟩
              | some fl219 =>
                rw [q218] at e217
                obtain ⟨e0, m221, sx306⟩ := e217
                cases e0
                have sx306 : Sm [36] h198 h216 := sx306
                have f307 := sx306.at x207 (by decide)
                have f308 := sx306.at f205 (by decide)
                refine x_if_ne (tgt := 142) dX12_readThing_137 (by decide) (fun c_137 => absurd (by decide) c_137) (fun c_137 => ?_)
                refine x_iconst (v := 0) dX12_readThing_140 (by decide) ?_
                exact x_zret dX12_readThing_141 rfl rfl ⟨sm224, by rw [show thgF tn tv nl c.2.1 i = some fl219 by unfold thgF numOfF szF; rw [if_neg (by omega), q120, q145, q163, q182, q200, q218]; rfl]; exact ⟨rfl, m221, ⟨_, f307, fun j hj => by rw [pk_un (by omega)]; rw [pk_un (by omega)]; rw [zr_n (by omega)]⟩, ⟨_, f308⟩⟩⟩
            | some fl201 =>
              rw [q200] at e199
              obtain ⟨e0, m203, sx309⟩ := e199
              cases e0
              have sx309 : Sm [36] h180 h198 := sx309
              have f310 := sx309.at f187 (by decide)
              have f311 := sx309.at f188 (by decide)
              refine x_if_ne (tgt := 142) dX12_readThing_137 (by decide) (fun c_137 => absurd (by decide) c_137) (fun c_137 => ?_)
              refine x_iconst (v := 0) dX12_readThing_140 (by decide) ?_
              exact x_zret dX12_readThing_141 rfl rfl ⟨sm206, by rw [show thgF tn tv nl c.2.1 i = some fl201 by unfold thgF numOfF szF; rw [if_neg (by omega), q120, q145, q163, q182, q200]; rfl]; exact ⟨rfl, m203, ⟨_, f310, fun j hj => by rw [pk_un (by omega)]; rw [zr_n (by omega)]⟩, ⟨_, f311⟩⟩⟩
          | some fl183 =>
            rw [q182] at e181
            obtain ⟨e0, m185⟩ := e181
            cases e0
            refine x_if_ne (tgt := 119) dX12_readThing_114 (by decide) (fun c_114 => absurd (by decide) c_114) (fun c_114 => ?_)
            refine x_iconst (v := 0) dX12_readThing_117 (by decide) ?_
            exact x_zret dX12_readThing_118 rfl rfl ⟨sm189, by rw [show thgF tn tv nl c.2.1 i = some fl183 by unfold thgF numOfF szF; rw [if_neg (by omega), q120, q145, q163, q182]; rfl]; exact ⟨rfl, m185, ⟨_, f187, fun j hj => by rw [pk_un (by omega)]; rw [zr_n (by omega)]⟩, ⟨_, f188⟩⟩⟩
        | some fl164 =>
          rw [q163] at e162
          obtain ⟨e0, m166, sx313⟩ := e162
          cases e0
          have sx313 : Sm [36] h143 h161 := sx313
          have f314 := sx313.at f150 (by decide)
          have f315 := sx313.at f151 (by decide)
          refine x_if_eq (tgt := 117) dX12_readThing_95 (by decide) (fun c_95 => ?_) (fun c_95 => absurd (by decide) c_95)
          refine x_iconst (v := 0) dX12_readThing_117 (by decide) ?_
          exact x_zret dX12_readThing_118 rfl rfl ⟨sm169, by rw [show thgF tn tv nl c.2.1 i = some fl164 by unfold thgF numOfF szF; rw [if_neg (by omega), q120, q145, q163]; rfl]; exact ⟨rfl, m166, ⟨_, f314, fun j hj => by rw [zr_n (by omega)]⟩, ⟨_, f315⟩⟩⟩
      | some fl146 =>
        rw [q145] at e144
        obtain ⟨e0, m148⟩ := e144
        cases e0
        refine x_if_eq (tgt := 117) dX12_readThing_84 (by decide) (fun c_84 => ?_) (fun c_84 => absurd (by decide) c_84)
        refine x_iconst (v := 0) dX12_readThing_117 (by decide) ?_
        exact x_zret dX12_readThing_118 rfl rfl ⟨sm152, by rw [show thgF tn tv nl c.2.1 i = some fl146 by unfold thgF numOfF szF; rw [if_neg (by omega), q120, q145]; rfl]; exact ⟨rfl, m148, ⟨_, f150, fun j hj => by rw [zr_n (by omega)]⟩, ⟨_, f151⟩⟩⟩
    | some fl121 =>
      rw [q120] at e119
      obtain ⟨e0, m123, sx317⟩ := e119
      cases e0
      have sx317 : Sm [36] h102 h118 := sx317
      have f318 := sx317.at f107 (by decide)
      have f319 := sx317.at f108 (by decide)
      refine x_if_ne (tgt := 39) dX12_readThing_34 (by decide) (fun c_34 => absurd (by decide) c_34) (fun c_34 => ?_)
      refine x_iconst (v := 0) dX12_readThing_37 (by decide) ?_
      exact x_zret dX12_readThing_38 rfl rfl ⟨sm126, by rw [show thgF tn tv nl c.2.1 i = some fl121 by unfold thgF numOfF szF; rw [if_neg (by omega), q120]; rfl]; exact ⟨rfl, m123, ⟨_, f318, fun j hj => rfl⟩, ⟨_, f319⟩⟩⟩
  · refine x_aload_n dX12_readThing_19 1 rfl ?_
    refine x_iconst (v := 4) dX12_readThing_20 (by decide) ?_
    refine x_callV (rf' := 0) (rl' := 0) [.int 4] [] dX12_readThing_21 vX12_145 Y_X12_bad f36 (by decide) rfl rfl (Nat.le_of_ble_eq_true rfl) (Nat.le_of_ble_eq_true rfl) (by decide) (by decide) (c_bad (k := 4) htn hv hmt tk f36 f37 (fun z => by have := tk.k1 z; omega)) (fun r h320 e321 => ?_)
    obtain ⟨sm322, e0, m323⟩ := e321
    cases e0
    have sm322 : Sm [36] h h320 := sm322
    have f324 := sm322.at f37 (by decide)
    have f325 := sm322.at f38 (by decide)
    have f326 := sm322.at f40 (by decide)
    have sm327 := sm0.tr (sm322.wide (by decide))
    exact x_zret dX12_readThing_24 rfl rfl ⟨sm327, by rw [show thgF tn tv nl c.2.1 i = some (4, i) by unfold thgF; rw [if_pos (by omega)]]; exact ⟨rfl, m323, ⟨_, f325, fun j hj => rfl⟩, ⟨_, f326⟩⟩⟩

set_option maxRecDepth 100000 in
set_option maxHeartbeats 4000000 in
theorem m_readBox {G : GT} {h : List PE} {tn : Nat} {tv : Nat → Nat} {mtp : Nat → Int32} {flt plc tld too frm knd num sgn : Int32} {wrd : Int64} {x : Nat → Int32} {i : Nat} (htn : tn ≤ 640) (hv : ∀ j, j < tn → tv j < 256) (hmt : ∀ j, j < tn → mtp j = nI (tv j)) (tk : TkM tn tv i too frm knd num sgn wrd) {bk R : Nat → Int32} {nm : Nat → Int64} {nl : NL'} {c : CN} (f36 : h[36]? = some (cO 12 (MO ((x 0)) ((x 1)) ((x 2)) ((x 3)) ((nI tn)) too frm knd num sgn flt plc wrd tld ((x 4)) ((x 5)) ((x 6)) ((x 7)) ((x 8)) ((x 9)) ((x 10)) ((x 11))))) (f37 : h[37]? = some (cI 640 mtp)) (f38 : h[38]? = some (cI 10164 bk)) (f40 : h[40]? = some (cJ 24 nm)) (hR : ∀ j, j < 484 → bk (484 * 20 + j) = R j) (hnp : NmP nm nl c) (W : WFk R c) (hnl : NlOk nl c) (hk : kd tn tv i = 2)  : CT G mX12_readBox 4 90 [.ref 36] h (MLn h (boxF tn tv nl c.2.2.1 i) tn tv (i + 10) x flt plc bk (boxR tn tv c.2.2.1 i R) (nl ++ [(2, c.2.2.1, wn tn tv (i + 1))]) (c.1, c.2.1, c.2.2.1 + 1, c.2.2.2)) := by
  have hRs := rsort hR W
  have w8 := wf8 W
  have w1 := W.2.1
  have w3 := W.2.2.2.1
  have w5 := W.2.2.2.2.2.1
  have w7 := W.2.2.2.2.2.2.2.1
  have sm0 : Sm [36, 38, 40] h h := Sm.rf
  show X (NF G) G mX12_readBox 4 90 0 [(0, .ref 36)] [] h _
  refine x_aload_n dX12_readBox_0 0 rfl ?_
  refine x_get (v := .ref 38) dX12_readBox_1 fX12_13 f36 (by decide) rfl ?_
  refine x_bipush (v := 20) dX12_readBox_4 (by decide) ?_
  refine x_callS (rf' := 0) (rl' := 0) [.int 20] [.ref 38] dX12_readBox_6 vX12_154 Y_X12_at rfl rfl (Nat.le_of_ble_eq_true rfl) (Nat.le_of_ble_eq_true rfl) (by decide) (by decide) (c_at (b := 20)) (fun _ _ e101 => ?_)
  cases e101
  refine x_iconst (v := 2) dX12_readBox_9 (by decide) ?_
  refine x_iaddN (a := (484 * 20)) (b := 2) dX12_readBox_10 ?_
  refine x_ialdN (i := ((484 * 20) + 2)) dX12_readBox_11 f38 (by decide) (by omega) (by decide) ?_
  rw [show (bk (((484 * 20) + 2))) = nI (c.2.2.1) from (by exact hRs 2 (by decide))]
  refine x_istore_n (lv2 := [(1, .int (nI (c.2.2.1))), (0, .ref 36)]) dX12_readBox_12 (by decide) rfl ?_
  refine x_iload_n dX12_readBox_13 0 rfl ?_
  refine x_bipush (v := 8) dX12_readBox_14 (by decide) ?_
  refine x_icmp_neN (tgt := 25) (a := (c.2.2.1)) (b := 8) (by omega) (by omega) dX12_readBox_16 (by decide) (fun c_16 => ?_) (fun c_16 => ?_)
  · refine x_aload_n dX12_readBox_25 1 rfl ?_
    refine x_callV (rf' := 1) (rl' := 21) [] [] dX12_readBox_26 vX12_148 Y_X12_go f36 (by decide) rfl rfl (Nat.le_of_ble_eq_true rfl) (Nat.le_of_ble_eq_true rfl) (by decide) (by decide) (c_goN htn hv hmt tk f36 f37 (by omega)) (fun r h102 e103 => ?_)
    obtain ⟨e0, m105, sm104⟩ := e103
    cases e0
    have sm104 : Sm [36] h h102 := sm104
    have f106 := sm104.at f37 (by decide)
    have f107 := sm104.at f38 (by decide)
    have f108 := sm104.at f40 (by decide)
    have sm109 := sm0.tr (sm104.wide (by decide))
    obtain ⟨m110, m111, m112, m113, m114, m115, f116, tk117⟩ := m105
    have f116 : h102[36]? = some (cO 12 (MO ((x 0)) ((x 1)) ((x 2)) ((x 3)) ((nI tn)) m110 m111 m112 m113 m114 flt plc m115 tld ((x 4)) ((x 5)) ((x 6)) ((x 7)) ((x 8)) ((x 9)) ((x 10)) ((x 11)))) := f116
    have tk117 : TkM tn tv (i + 1) m110 m111 m112 m113 m114 m115 := tk117
    refine x_aload_n dX12_readBox_29 1 rfl ?_
    refine x_iconst (v := 2) dX12_readBox_30 (by decide) ?_
    refine x_callV (rf' := 3) (rl' := 66) [.int 2] [] dX12_readBox_31 vX12_174 Y_X12_readName f116 (by decide) rfl rfl (Nat.le_of_ble_eq_true rfl) (Nat.le_of_ble_eq_true rfl) (by decide) (by decide) (c_readNameM (k := 2) htn hv hmt tk117 f116 f106 f107 f108 hRs hnp w8 (by decide) (show c.2.2.1 < 8 by omega)) (fun r h118 e119 => ?_)
    obtain ⟨sm122, e119⟩ := e119
    have sm122 : Sm [36, 40] h102 h118 := sm122
    have f124 := sm122.at f106 (by decide)
    have f125 := sm122.at f107 (by decide)
    have sm126 := sm109.tr (sm122.wide (by decide))
    cases q120 : newF tn tv nl (i + 1) with
    | none =>
      rw [q120] at e119
      obtain ⟨e0, m123, x127, x128⟩ := e119
      cases e0
      obtain ⟨m129, m130, m131, m132, m133, m134, f135, tk136⟩ := m123
      have f135 : h118[36]? = some (cO 12 (MO ((x 0)) ((x 1)) ((x 2)) ((x 3)) ((nI tn)) m129 m130 m131 m132 m133 flt plc m134 tld ((x 4)) ((x 5)) ((x 6)) ((x 7)) ((x 8)) ((x 9)) ((x 10)) ((x 11)))) := f135
      have tk136 : TkM tn tv (i + 2) m129 m130 m131 m132 m133 m134 := tk136
      have x127 : h118[40]? = some (cJ 24 ((vp_updL nm (8 * 2 + cS c 2) (lN (wn tn tv (i + 1)))))) := x127
      have kkq120 := newE q120
      refine x_if_eq (tgt := 56) dX12_readBox_34 (by decide) (fun c_34 => absurd c_34 (by decide)) (fun c_34 => ?_)
      refine x_aload_n dX12_readBox_37 1 rfl ?_
      refine x_bipush (v := 114) dX12_readBox_38 (by decide) ?_
      refine x_bipush (v := 111) dX12_readBox_40 (by decide) ?_
      refine x_bipush (v := 111) dX12_readBox_42 (by decide) ?_
      refine x_bipush (v := 109) dX12_readBox_44 (by decide) ?_
      refine x_iconst (v := 0) dX12_readBox_46 (by decide) ?_
      refine x_callS (rf' := 0) (rl' := 0) [.int 114, .int 111, .int 111, .int 109, .int 0] [.ref 36] dX12_readBox_47 vX12_109 Y_X12_spelt rfl rfl (Nat.le_of_ble_eq_true rfl) (Nat.le_of_ble_eq_true rfl) (by decide) (by decide) c_spelt10 (fun _ _ e137 => ?_)
      cases e137
      refine x_callV (rf' := 2) (rl' := 45) [.long (lN (k27 10))] [] dX12_readBox_50 vX12_180 Y_X12_readKey f135 (by decide) rfl rfl (Nat.le_of_ble_eq_true rfl) (Nat.le_of_ble_eq_true rfl) (by decide) (by decide) (c_readKey (n := 10) (by decide) htn hv hmt tk136 f135 f124) (fun r h138 e139 => ?_)
      obtain ⟨sm142, e139⟩ := e139
      have sm142 : Sm [36] h118 h138 := sm142
      have f144 := sm142.at f124 (by decide)
      have f145 := sm142.at f125 (by decide)
      have f146 := sm142.at x127 (by decide)
      have sm147 := sm126.tr (sm142.wide (by decide))
      cases q140 : tokF tn tv 10 (i + 2) with
      | none =>
        rw [q140] at e139
        obtain ⟨e0, m143⟩ := e139
        cases e0
        obtain ⟨m148, m149, m150, m151, m152, m153, f154, tk155⟩ := m143
        have f154 : h138[36]? = some (cO 12 (MO ((x 0)) ((x 1)) ((x 2)) ((x 3)) ((nI tn)) m148 m149 m150 m151 m152 flt plc m153 tld ((x 4)) ((x 5)) ((x 6)) ((x 7)) ((x 8)) ((x 9)) ((x 10)) ((x 11)))) := f154
        have tk155 : TkM tn tv (i + 3) m148 m149 m150 m151 m152 m153 := tk155
        have kkq140 := tokE q140
        refine x_if_ne (tgt := 58) dX12_readBox_53 (by decide) (fun c_53 => ?_) (fun c_53 => absurd c_53 (by decide))
        refine x_sipush (v := 356) dX12_readBox_58 (by decide) ?_
        refine x_bipush (v := 6) dX12_readBox_61 (by decide) ?_
        refine x_iload_n dX12_readBox_63 0 rfl ?_
        refine x_imulN (a := 6) (b := (c.2.2.1)) dX12_readBox_64 ?_
        refine x_iaddN (a := 356) (b := (6 * (c.2.2.1))) dX12_readBox_65 ?_
        refine x_istore_n (lv2 := [(2, .int (nI (356 + (6 * (c.2.2.1))))), (1, .int (nI (c.2.2.1))), (0, .ref 36)]) dX12_readBox_66 (by decide) rfl ?_
        refine x_iconst (v := 0) dX12_readBox_67 (by decide) ?_
        refine x_istore_n (lv2 := [(3, .int 0), (2, .int (nI (356 + (6 * (c.2.2.1))))), (1, .int (nI (c.2.2.1))), (0, .ref 36)]) dX12_readBox_68 (by decide) rfl ?_
        refine x_iload_n dX12_readBox_69 0 rfl ?_
        refine x_iconst (v := 3) dX12_readBox_70 (by decide) ?_
        refine x_icmp_ge (tgt := 96) dX12_readBox_71 (by decide) (fun c_71 => absurd c_71 (by decide)) (fun c_71 => ?_)
        refine x_aload_n dX12_readBox_74 3 rfl ?_
        refine x_iload_n dX12_readBox_75 1 rfl ?_
        refine x_iload_n dX12_readBox_76 0 rfl ?_
        refine x_iaddN (a := (356 + (6 * (c.2.2.1)))) (b := 0) dX12_readBox_77 ?_
        refine x_iconst (v := 1) dX12_readBox_78 (by decide) ?_
        refine x_sipush (v := 9999) dX12_readBox_79 (by decide) ?_
        refine x_callV (rf' := 3) (rl' := 67) [.int (nI ((356 + (6 * (c.2.2.1))) + 0)), .int 1, .int 9999] [] dX12_readBox_82 vX12_167 Y_X12_readInto f154 (by decide) rfl rfl (Nat.le_of_ble_eq_true rfl) (Nat.le_of_ble_eq_true rfl) (by decide) (by decide) (c_readInto (p := ((356 + (6 * (c.2.2.1))) + 0)) (a := 1) (b := 9999) htn hv hmt tk155 f154 f144 f145 (by omega)) (fun r h156 e157 => ?_)
        obtain ⟨sm160, e157⟩ := e157
        have sm160 : Sm [36, 38] h138 h156 := sm160
        have f162 := sm160.at f144 (by decide)
        have f163 := sm160.at f146 (by decide)
        have sm164 := sm147.tr (sm160.wide (by decide))
        cases q158 : numF tn tv 1 9999 (i + 3) with
        | none =>
          rw [q158] at e157
          obtain ⟨e0, m161, x165⟩ := e157
          cases e0
          obtain ⟨m166, m167, m168, m169, m170, m171, f172, tk173⟩ := m161
          have f172 : h156[36]? = some (cO 12 (MO ((x 0)) ((x 1)) ((x 2)) ((x 3)) ((nI tn)) m166 m167 m168 m169 m170 flt plc m171 ((nI (nv tn tv (i + 3)))) ((x 4)) ((x 5)) ((x 6)) ((x 7)) ((x 8)) ((x 9)) ((x 10)) ((x 11)))) := f172
          have tk173 : TkM tn tv (i + 4) m166 m167 m168 m169 m170 m171 := tk173
          have x165 : h156[38]? = some (cI 10164 ((upd bk (484 * 20 + (((356 + (6 * (c.2.2.1))) + 0))) (nI (nv tn tv (i + 3)))))) := x165
          have kkq158 := numE q158
          refine x_if_ne (tgt := 90) dX12_readBox_85 (by decide) (fun c_85 => ?_) (fun c_85 => absurd c_85 (by decide))
          refine x_iinc (lv2 := [(3, .int 1), (2, .int (nI (356 + (6 * (c.2.2.1))))), (1, .int (nI (c.2.2.1))), (0, .ref 36)]) dX12_readBox_90 0 rfl (by decide) (by decide) rfl ?_
          refine x_goto (tgt := 69) dX12_readBox_93 (by decide) ?_
          refine x_iload_n dX12_readBox_69 0 rfl ?_
          refine x_iconst (v := 3) dX12_readBox_70 (by decide) ?_
          refine x_icmp_ge (tgt := 96) dX12_readBox_71 (by decide) (fun c_71 => absurd c_71 (by decide)) (fun c_71 => ?_)
          refine x_aload_n dX12_readBox_74 3 rfl ?_
          refine x_iload_n dX12_readBox_75 1 rfl ?_
          refine x_iload_n dX12_readBox_76 0 rfl ?_
          refine x_iaddN (a := (356 + (6 * (c.2.2.1)))) (b := 1) dX12_readBox_77 ?_
          refine x_iconst (v := 1) dX12_readBox_78 (by decide) ?_
          refine x_sipush (v := 9999) dX12_readBox_79 (by decide) ?_
          refine x_callV (rf' := 3) (rl' := 67) [.int (nI ((356 + (6 * (c.2.2.1))) + 1)), .int 1, .int 9999] [] dX12_readBox_82 vX12_167 Y_X12_readInto f172 (by decide) rfl rfl (Nat.le_of_ble_eq_true rfl) (Nat.le_of_ble_eq_true rfl) (by decide) (by decide) (c_readInto (p := ((356 + (6 * (c.2.2.1))) + 1)) (a := 1) (b := 9999) htn hv hmt tk173 f172 f162 x165 (by omega)) (fun r h174 e175 => ?_)
          obtain ⟨sm178, e175⟩ := e175
          have sm178 : Sm [36, 38] h156 h174 := sm178
          have f180 := sm178.at f162 (by decide)
          have f181 := sm178.at f163 (by decide)
          have sm182 := sm164.tr (sm178.wide (by decide))
          cases q176 : numF tn tv 1 9999 (i + 4) with
          | none =>
            rw [q176] at e175
            obtain ⟨e0, m179, x183⟩ := e175
            cases e0
            obtain ⟨m184, m185, m186, m187, m188, m189, f190, tk191⟩ := m179
            have f190 : h174[36]? = some (cO 12 (MO ((x 0)) ((x 1)) ((x 2)) ((x 3)) ((nI tn)) m184 m185 m186 m187 m188 flt plc m189 ((nI (nv tn tv (i + 4)))) ((x 4)) ((x 5)) ((x 6)) ((x 7)) ((x 8)) ((x 9)) ((x 10)) ((x 11)))) := f190
            have tk191 : TkM tn tv (i + 5) m184 m185 m186 m187 m188 m189 := tk191
            have x183 : h174[38]? = some (cI 10164 ((upd ((upd bk (484 * 20 + (((356 + (6 * (c.2.2.1))) + 0))) (nI (nv tn tv (i + 3))))) (484 * 20 + (((356 + (6 * (c.2.2.1))) + 1))) (nI (nv tn tv (i + 4)))))) := x183
            have kkq176 := numE q176
            refine x_if_ne (tgt := 90) dX12_readBox_85 (by decide) (fun c_85 => ?_) (fun c_85 => absurd c_85 (by decide))
            refine x_iinc (lv2 := [(3, .int 2), (2, .int (nI (356 + (6 * (c.2.2.1))))), (1, .int (nI (c.2.2.1))), (0, .ref 36)]) dX12_readBox_90 0 rfl (by decide) (by decide) rfl ?_
            refine x_goto (tgt := 69) dX12_readBox_93 (by decide) ?_
            refine x_iload_n dX12_readBox_69 0 rfl ?_
            refine x_iconst (v := 3) dX12_readBox_70 (by decide) ?_
            refine x_icmp_ge (tgt := 96) dX12_readBox_71 (by decide) (fun c_71 => absurd c_71 (by decide)) (fun c_71 => ?_)
            refine x_aload_n dX12_readBox_74 3 rfl ?_
            refine x_iload_n dX12_readBox_75 1 rfl ?_
            refine x_iload_n dX12_readBox_76 0 rfl ?_
            refine x_iaddN (a := (356 + (6 * (c.2.2.1)))) (b := 2) dX12_readBox_77 ?_
            refine x_iconst (v := 1) dX12_readBox_78 (by decide) ?_
            refine x_sipush (v := 9999) dX12_readBox_79 (by decide) ?_
            refine x_callV (rf' := 3) (rl' := 67) [.int (nI ((356 + (6 * (c.2.2.1))) + 2)), .int 1, .int 9999] [] dX12_readBox_82 vX12_167 Y_X12_readInto f190 (by decide) rfl rfl (Nat.le_of_ble_eq_true rfl) (Nat.le_of_ble_eq_true rfl) (by decide) (by decide) (c_readInto (p := ((356 + (6 * (c.2.2.1))) + 2)) (a := 1) (b := 9999) htn hv hmt tk191 f190 f180 x183 (by omega)) (fun r h192 e193 => ?_)
            obtain ⟨sm196, e193⟩ := e193
            have sm196 : Sm [36, 38] h174 h192 := sm196
            have f198 := sm196.at f180 (by decide)
            have f199 := sm196.at f181 (by decide)
            have sm200 := sm182.tr (sm196.wide (by decide))
            cases q194 : numF tn tv 1 9999 (i + 5) with
            | none =>
              rw [q194] at e193
              obtain ⟨e0, m197, x201⟩ := e193
              cases e0
              obtain ⟨m202, m203, m204, m205, m206, m207, f208, tk209⟩ := m197
              have f208 : h192[36]? = some (cO 12 (MO ((x 0)) ((x 1)) ((x 2)) ((x 3)) ((nI tn)) m202 m203 m204 m205 m206 flt plc m207 ((nI (nv tn tv (i + 5)))) ((x 4)) ((x 5)) ((x 6)) ((x 7)) ((x 8)) ((x 9)) ((x 10)) ((x 11)))) := f208
              have tk209 : TkM tn tv (i + 6) m202 m203 m204 m205 m206 m207 := tk209
              have x201 : h192[38]? = some (cI 10164 ((upd ((upd ((upd bk (484 * 20 + (((356 + (6 * (c.2.2.1))) + 0))) (nI (nv tn tv (i + 3))))) (484 * 20 + (((356 + (6 * (c.2.2.1))) + 1))) (nI (nv tn tv (i + 4))))) (484 * 20 + (((356 + (6 * (c.2.2.1))) + 2))) (nI (nv tn tv (i + 5)))))) := x201
              have kkq194 := numE q194
              refine x_if_ne (tgt := 90) dX12_readBox_85 (by decide) (fun c_85 => ?_) (fun c_85 => absurd c_85 (by decide))
              refine x_iinc (lv2 := [(3, .int 3), (2, .int (nI (356 + (6 * (c.2.2.1))))), (1, .int (nI (c.2.2.1))), (0, .ref 36)]) dX12_readBox_90 0 rfl (by decide) (by decide) rfl ?_
              refine x_goto (tgt := 69) dX12_readBox_93 (by decide) ?_
              refine x_iload_n dX12_readBox_69 0 rfl ?_
              refine x_iconst (v := 3) dX12_readBox_70 (by decide) ?_
              refine x_icmp_ge (tgt := 96) dX12_readBox_71 (by decide) (fun c_71 => ?_) (fun c_71 => absurd (by decide) c_71)
              refine x_aload_n dX12_readBox_96 3 rfl ?_
              refine x_bipush (v := 112) dX12_readBox_97 (by decide) ?_
              refine x_bipush (v := 114) dX12_readBox_99 (by decide) ?_
              refine x_bipush (v := 105) dX12_readBox_101 (by decide) ?_
              refine x_bipush (v := 99) dX12_readBox_103 (by decide) ?_
              refine x_bipush (v := 101) dX12_readBox_105 (by decide) ?_
              refine x_callS (rf' := 0) (rl' := 0) [.int 112, .int 114, .int 105, .int 99, .int 101] [.ref 36] dX12_readBox_107 vX12_109 Y_X12_spelt rfl rfl (Nat.le_of_ble_eq_true rfl) (Nat.le_of_ble_eq_true rfl) (by decide) (by decide) c_spelt6 (fun _ _ e210 => ?_)
              cases e210
              refine x_callV (rf' := 2) (rl' := 45) [.long (lN (k27 6))] [] dX12_readBox_110 vX12_180 Y_X12_readKey f208 (by decide) rfl rfl (Nat.le_of_ble_eq_true rfl) (Nat.le_of_ble_eq_true rfl) (by decide) (by decide) (c_readKey (n := 6) (by decide) htn hv hmt tk209 f208 f198) (fun r h211 e212 => ?_)
              obtain ⟨sm215, e212⟩ := e212
              have sm215 : Sm [36] h192 h211 := sm215
              have f217 := sm215.at f198 (by decide)
              have f218 := sm215.at x201 (by decide)
              have f219 := sm215.at f199 (by decide)
              have sm220 := sm200.tr (sm215.wide (by decide))
              cases q213 : tokF tn tv 6 (i + 6) with
              | none =>
                rw [q213] at e212
                obtain ⟨e0, m216⟩ := e212
                cases e0
                obtain ⟨m221, m222, m223, m224, m225, m226, f227, tk228⟩ := m216
                have f227 : h211[36]? = some (cO 12 (MO ((x 0)) ((x 1)) ((x 2)) ((x 3)) ((nI tn)) m221 m222 m223 m224 m225 flt plc m226 ((nI (nv tn tv (i + 5)))) ((x 4)) ((x 5)) ((x 6)) ((x 7)) ((x 8)) ((x 9)) ((x 10)) ((x 11)))) := f227
                have tk228 : TkM tn tv (i + 7) m221 m222 m223 m224 m225 m226 := tk228
                have kkq213 := tokE q213
                refine x_if_eq (tgt := 130) dX12_readBox_113 (by decide) (fun c_113 => absurd c_113 (by decide)) (fun c_113 => ?_)
                refine x_aload_n dX12_readBox_116 3 rfl ?_
                refine x_iload_n dX12_readBox_117 1 rfl ?_
                refine x_iconst (v := 3) dX12_readBox_118 (by decide) ?_
                refine x_iaddN (a := (356 + (6 * (c.2.2.1)))) (b := 3) dX12_readBox_119 ?_
                refine x_iconst (v := 0) dX12_readBox_120 (by decide) ?_
                refine x_sipush (v := 10000) dX12_readBox_121 (by decide) ?_
                refine x_callV (rf' := 3) (rl' := 67) [.int (nI ((356 + (6 * (c.2.2.1))) + 3)), .int 0, .int 10000] [] dX12_readBox_124 vX12_167 Y_X12_readInto f227 (by decide) rfl rfl (Nat.le_of_ble_eq_true rfl) (Nat.le_of_ble_eq_true rfl) (by decide) (by decide) (c_readInto (p := ((356 + (6 * (c.2.2.1))) + 3)) (a := 0) (b := 10000) htn hv hmt tk228 f227 f217 f218 (by omega)) (fun r h229 e230 => ?_)
                obtain ⟨sm233, e230⟩ := e230
                have sm233 : Sm [36, 38] h211 h229 := sm233
                have f235 := sm233.at f217 (by decide)
                have f236 := sm233.at f219 (by decide)
                have sm237 := sm220.tr (sm233.wide (by decide))
                cases q231 : numF tn tv 0 10000 (i + 7) with
                | none =>
                  rw [q231] at e230
                  obtain ⟨e0, m234, x238⟩ := e230
                  cases e0
                  obtain ⟨m239, m240, m241, m242, m243, m244, f245, tk246⟩ := m234
                  have f245 : h229[36]? = some (cO 12 (MO ((x 0)) ((x 1)) ((x 2)) ((x 3)) ((nI tn)) m239 m240 m241 m242 m243 flt plc m244 ((nI (nv tn tv (i + 7)))) ((x 4)) ((x 5)) ((x 6)) ((x 7)) ((x 8)) ((x 9)) ((x 10)) ((x 11)))) := f245
                  have tk246 : TkM tn tv (i + 8) m239 m240 m241 m242 m243 m244 := tk246
                  have x238 : h229[38]? = some (cI 10164 ((upd ((upd ((upd ((upd bk (484 * 20 + (((356 + (6 * (c.2.2.1))) + 0))) (nI (nv tn tv (i + 3))))) (484 * 20 + (((356 + (6 * (c.2.2.1))) + 1))) (nI (nv tn tv (i + 4))))) (484 * 20 + (((356 + (6 * (c.2.2.1))) + 2))) (nI (nv tn tv (i + 5))))) (484 * 20 + (((356 + (6 * (c.2.2.1))) + 3))) (nI (nv tn tv (i + 7)))))) := x238
                  have kkq231 := numE q231
                  refine x_if_ne (tgt := 132) dX12_readBox_127 (by decide) (fun c_127 => ?_) (fun c_127 => absurd c_127 (by decide))
                  refine x_aload_n dX12_readBox_132 3 rfl ?_
                  refine x_bipush (v := 98) dX12_readBox_133 (by decide) ?_
                  refine x_bipush (v := 101) dX12_readBox_135 (by decide) ?_
                  refine x_bipush (v := 97) dX12_readBox_137 (by decide) ?_
                  refine x_bipush (v := 114) dX12_readBox_139 (by decide) ?_
                  refine x_bipush (v := 115) dX12_readBox_141 (by decide) ?_
                  refine x_callS (rf' := 0) (rl' := 0) [.int 98, .int 101, .int 97, .int 114, .int 115] [.ref 36] dX12_readBox_143 vX12_109 Y_X12_spelt rfl rfl (Nat.le_of_ble_eq_true rfl) (Nat.le_of_ble_eq_true rfl) (by decide) (by decide) c_spelt11 (fun _ _ e247 => ?_)
                  cases e247
                  refine x_callV (rf' := 2) (rl' := 45) [.long (lN (k27 11))] [] dX12_readBox_146 vX12_180 Y_X12_readKey f245 (by decide) rfl rfl (Nat.le_of_ble_eq_true rfl) (Nat.le_of_ble_eq_true rfl) (by decide) (by decide) (c_readKey (n := 11) (by decide) htn hv hmt tk246 f245 f235) (fun r h248 e249 => ?_)
                  obtain ⟨sm252, e249⟩ := e249
                  have sm252 : Sm [36] h229 h248 := sm252
                  have f254 := sm252.at f235 (by decide)
                  have f255 := sm252.at x238 (by decide)
                  have f256 := sm252.at f236 (by decide)
                  have sm257 := sm237.tr (sm252.wide (by decide))
                  cases q250 : tokF tn tv 11 (i + 8) with
                  | none =>
                    rw [q250] at e249
                    obtain ⟨e0, m253⟩ := e249
                    cases e0
                    obtain ⟨m258, m259, m260, m261, m262, m263, f264, tk265⟩ := m253
                    have f264 : h248[36]? = some (cO 12 (MO ((x 0)) ((x 1)) ((x 2)) ((x 3)) ((nI tn)) m258 m259 m260 m261 m262 flt plc m263 ((nI (nv tn tv (i + 7)))) ((x 4)) ((x 5)) ((x 6)) ((x 7)) ((x 8)) ((x 9)) ((x 10)) ((x 11)))) := f264
                    have tk265 : TkM tn tv (i + 9) m258 m259 m260 m261 m262 m263 := tk265
                    have kkq250 := tokE q250
                    refine x_if_eq (tgt := 165) dX12_readBox_149 (by decide) (fun c_149 => absurd c_149 (by decide)) (fun c_149 => ?_)
                    refine x_aload_n dX12_readBox_152 3 rfl ?_
                    refine x_iload_n dX12_readBox_153 1 rfl ?_
                    refine x_iconst (v := 4) dX12_readBox_154 (by decide) ?_
                    refine x_iaddN (a := (356 + (6 * (c.2.2.1)))) (b := 4) dX12_readBox_155 ?_
                    refine x_iconst (v := 1) dX12_readBox_156 (by decide) ?_
                    refine x_ldc (v := 60000) dX12_readBox_157 kX12_173 ?_
                    refine x_callV (rf' := 3) (rl' := 67) [.int (nI ((356 + (6 * (c.2.2.1))) + 4)), .int 1, .int 60000] [] dX12_readBox_159 vX12_167 Y_X12_readInto f264 (by decide) rfl rfl (Nat.le_of_ble_eq_true rfl) (Nat.le_of_ble_eq_true rfl) (by decide) (by decide) (c_readInto (p := ((356 + (6 * (c.2.2.1))) + 4)) (a := 1) (b := 60000) htn hv hmt tk265 f264 f254 f255 (by omega)) (fun r h266 e267 => ?_)
                    obtain ⟨sm270, e267⟩ := e267
                    have sm270 : Sm [36, 38] h248 h266 := sm270
                    have f272 := sm270.at f254 (by decide)
                    have f273 := sm270.at f256 (by decide)
                    have sm274 := sm257.tr (sm270.wide (by decide))
                    cases q268 : numF tn tv 1 60000 (i + 9) with
                    | none =>
                      rw [q268] at e267
                      obtain ⟨e0, m271, x275⟩ := e267
                      cases e0
                      obtain ⟨m276, m277, m278, m279, m280, m281, f282, tk283⟩ := m271
                      have f282 : h266[36]? = some (cO 12 (MO ((x 0)) ((x 1)) ((x 2)) ((x 3)) ((nI tn)) m276 m277 m278 m279 m280 flt plc m281 ((nI (nv tn tv (i + 9)))) ((x 4)) ((x 5)) ((x 6)) ((x 7)) ((x 8)) ((x 9)) ((x 10)) ((x 11)))) := f282
                      have tk283 : TkM tn tv (i + 10) m276 m277 m278 m279 m280 m281 := tk283
                      have x275 : h266[38]? = some (cI 10164 ((upd ((upd ((upd ((upd ((upd bk (484 * 20 + (((356 + (6 * (c.2.2.1))) + 0))) (nI (nv tn tv (i + 3))))) (484 * 20 + (((356 + (6 * (c.2.2.1))) + 1))) (nI (nv tn tv (i + 4))))) (484 * 20 + (((356 + (6 * (c.2.2.1))) + 2))) (nI (nv tn tv (i + 5))))) (484 * 20 + (((356 + (6 * (c.2.2.1))) + 3))) (nI (nv tn tv (i + 7))))) (484 * 20 + (((356 + (6 * (c.2.2.1))) + 4))) (nI (nv tn tv (i + 9)))))) := x275
                      have kkq268 := numE q268
                      refine x_if_ne (tgt := 167) dX12_readBox_162 (by decide) (fun c_162 => ?_) (fun c_162 => absurd c_162 (by decide))
                      refine x_aload_n dX12_readBox_167 3 rfl ?_
                      refine x_get (v := .ref 38) dX12_readBox_168 fX12_13 f282 (by decide) rfl ?_
                      refine x_bipush (v := 20) dX12_readBox_171 (by decide) ?_
                      refine x_callS (rf' := 0) (rl' := 0) [.int 20] [.ref 38] dX12_readBox_173 vX12_154 Y_X12_at rfl rfl (Nat.le_of_ble_eq_true rfl) (Nat.le_of_ble_eq_true rfl) (by decide) (by decide) (c_at (b := 20)) (fun _ _ e284 => ?_)
                      cases e284
                      refine x_iconst (v := 2) dX12_readBox_176 (by decide) ?_
                      refine x_iaddN (a := (484 * 20)) (b := 2) dX12_readBox_177 ?_
                      refine x_dup2 dX12_readBox_178 rfl rfl ?_
                      refine x_ialdN (i := ((484 * 20) + 2)) dX12_readBox_179 x275 (by decide) (by omega) (by decide) ?_
                      rw [show (((upd ((upd ((upd ((upd ((upd bk (484 * 20 + (((356 + (6 * (c.2.2.1))) + 0))) (nI (nv tn tv (i + 3))))) (484 * 20 + (((356 + (6 * (c.2.2.1))) + 1))) (nI (nv tn tv (i + 4))))) (484 * 20 + (((356 + (6 * (c.2.2.1))) + 2))) (nI (nv tn tv (i + 5))))) (484 * 20 + (((356 + (6 * (c.2.2.1))) + 3))) (nI (nv tn tv (i + 7))))) (484 * 20 + (((356 + (6 * (c.2.2.1))) + 4))) (nI (nv tn tv (i + 9))))) (((484 * 20) + 2))) = nI (c.2.2.1) from (by rw [pk_un (by omega)];rw [pk_un (by omega)];rw [pk_un (by omega)];rw [pk_un (by omega)];rw [pk_un (by omega)]; exact hRs 2 (by decide))]
                      refine x_iconst (v := 1) dX12_readBox_180 (by decide) ?_
                      refine x_iaddN (a := (c.2.2.1)) (b := 1) dX12_readBox_181 ?_
                      refine x_iastN (i := ((484 * 20) + 2)) dX12_readBox_182 x275 (by decide) (by omega) (by decide) (fun h285 a286 e287 l288 s289 => ?_)
                      have f290 := (e287 36 (by decide)).trans f282
                      have f291 := (e287 37 (by decide)).trans f272
                      have f292 := (e287 40 (by decide)).trans f273
                      have sm293 := Sm.put sm274 e287 l288 s289 (by decide)
                      refine x_iconst (v := 1) dX12_readBox_183 (by decide) ?_
                      exact x_zret dX12_readBox_184 rfl rfl ⟨sm293, by rw [show boxF tn tv nl c.2.2.1 i = none by unfold boxF numOfF szF; rw [if_neg (by omega), q120, q140, q158, q176, q194, q213, q231, q250, q268]; rfl]; exact ⟨rfl, ⟨_, ⟨_, _, _, _, _, _, f290, tk283⟩⟩, ⟨_, a286, fun j hj => by rw [pk_un (by omega)]; rw [pk_un (by omega)]; rw [pk_un (by omega)]; rw [pk_un (by omega)]; rw [pk_un (by omega)]; rw [pk_un (by omega)], box_cong hR⟩, ⟨_, f292, x128⟩⟩⟩
                    | some fl269 =>
                      rw [q268] at e267
                      obtain ⟨e0, m271, sx294⟩ := e267
                      cases e0
                      have sx294 : Sm [36] h248 h266 := sx294
                      have f295 := sx294.at f255 (by decide)
                      have f296 := sx294.at f256 (by decide)
                      refine x_if_ne (tgt := 167) dX12_readBox_162 (by decide) (fun c_162 => absurd (by decide) c_162) (fun c_162 => ?_)
                      refine x_iconst (v := 0) dX12_readBox_165 (by decide) ?_
                      exact x_zret dX12_readBox_166 rfl rfl ⟨sm274, by rw [show boxF tn tv nl c.2.2.1 i = some fl269 by unfold boxF numOfF szF; rw [if_neg (by omega), q120, q140, q158, q176, q194, q213, q231, q250, q268]; rfl]; exact ⟨rfl, m271, ⟨_, f295, fun j hj => by rw [pk_un (by omega)]; rw [pk_un (by omega)]; rw [pk_un (by omega)]; rw [pk_un (by omega)]⟩, ⟨_, f296⟩⟩⟩
                  | some fl251 =>
                    rw [q250] at e249
                    obtain ⟨e0, m253⟩ := e249
                    cases e0
                    refine x_if_eq (tgt := 165) dX12_readBox_149 (by decide) (fun c_149 => ?_) (fun c_149 => absurd (by decide) c_149)
                    refine x_iconst (v := 0) dX12_readBox_165 (by decide) ?_
                    exact x_zret dX12_readBox_166 rfl rfl ⟨sm257, by rw [show boxF tn tv nl c.2.2.1 i = some fl251 by unfold boxF numOfF szF; rw [if_neg (by omega), q120, q140, q158, q176, q194, q213, q231, q250]; rfl]; exact ⟨rfl, m253, ⟨_, f255, fun j hj => by rw [pk_un (by omega)]; rw [pk_un (by omega)]; rw [pk_un (by omega)]; rw [pk_un (by omega)]⟩, ⟨_, f256⟩⟩⟩
                | some fl232 =>
                  rw [q231] at e230
                  obtain ⟨e0, m234, sx298⟩ := e230
                  cases e0
                  have sx298 : Sm [36] h211 h229 := sx298
                  have f299 := sx298.at f218 (by decide)
                  have f300 := sx298.at f219 (by decide)
                  refine x_if_ne (tgt := 132) dX12_readBox_127 (by decide) (fun c_127 => absurd (by decide) c_127) (fun c_127 => ?_)
                  refine x_iconst (v := 0) dX12_readBox_130 (by decide) ?_
                  exact x_zret dX12_readBox_131 rfl rfl ⟨sm237, by rw [show boxF tn tv nl c.2.2.1 i = some fl232 by unfold boxF numOfF szF; rw [if_neg (by omega), q120, q140, q158, q176, q194, q213, q231]; rfl]; exact ⟨rfl, m234, ⟨_, f299, fun j hj => by rw [pk_un (by omega)]; rw [pk_un (by omega)]; rw [pk_un (by omega)]⟩, ⟨_, f300⟩⟩⟩
              | some fl214 =>
                rw [q213] at e212
                obtain ⟨e0, m216⟩ := e212
                cases e0
                refine x_if_eq (tgt := 130) dX12_readBox_113 (by decide) (fun c_113 => ?_) (fun c_113 => absurd (by decide) c_113)
                refine x_iconst (v := 0) dX12_readBox_130 (by decide) ?_
                exact x_zret dX12_readBox_131 rfl rfl ⟨sm220, by rw [show boxF tn tv nl c.2.2.1 i = some fl214 by unfold boxF numOfF szF; rw [if_neg (by omega), q120, q140, q158, q176, q194, q213]; rfl]; exact ⟨rfl, m216, ⟨_, f218, fun j hj => by rw [pk_un (by omega)]; rw [pk_un (by omega)]; rw [pk_un (by omega)]⟩, ⟨_, f219⟩⟩⟩
            | some fl195 =>
              rw [q194] at e193
              obtain ⟨e0, m197, sx302⟩ := e193
              cases e0
              have sx302 : Sm [36] h174 h192 := sx302
              have f303 := sx302.at x183 (by decide)
              have f304 := sx302.at f181 (by decide)
              refine x_if_ne (tgt := 90) dX12_readBox_85 (by decide) (fun c_85 => absurd (by decide) c_85) (fun c_85 => ?_)
              refine x_iconst (v := 0) dX12_readBox_88 (by decide) ?_
              exact x_zret dX12_readBox_89 rfl rfl ⟨sm200, by rw [show boxF tn tv nl c.2.2.1 i = some fl195 by unfold boxF numOfF szF; rw [if_neg (by omega), q120, q140, q158, q176, q194]; rfl]; exact ⟨rfl, m197, ⟨_, f303, fun j hj => by rw [pk_un (by omega)]; rw [pk_un (by omega)]⟩, ⟨_, f304⟩⟩⟩
          | some fl177 =>
            rw [q176] at e175
            obtain ⟨e0, m179, sx305⟩ := e175
            cases e0
            have sx305 : Sm [36] h156 h174 := sx305
            have f306 := sx305.at x165 (by decide)
            have f307 := sx305.at f163 (by decide)
            refine x_if_ne (tgt := 90) dX12_readBox_85 (by decide) (fun c_85 => absurd (by decide) c_85) (fun c_85 => ?_)
            refine x_iconst (v := 0) dX12_readBox_88 (by decide) ?_
            exact x_zret dX12_readBox_89 rfl rfl ⟨sm182, by rw [show boxF tn tv nl c.2.2.1 i = some fl177 by unfold boxF numOfF szF; rw [if_neg (by omega), q120, q140, q158, q176]; rfl]; exact ⟨rfl, m179, ⟨_, f306, fun j hj => by rw [pk_un (by omega)]⟩, ⟨_, f307⟩⟩⟩
        | some fl159 =>
          rw [q158] at e157
          obtain ⟨e0, m161, sx308⟩ := e157
          cases e0
          have sx308 : Sm [36] h138 h156 := sx308
          have f309 := sx308.at f145 (by decide)
          have f310 := sx308.at f146 (by decide)
          refine x_if_ne (tgt := 90) dX12_readBox_85 (by decide) (fun c_85 => absurd (by decide) c_85) (fun c_85 => ?_)
          refine x_iconst (v := 0) dX12_readBox_88 (by decide) ?_
          exact x_zret dX12_readBox_89 rfl rfl ⟨sm164, by rw [show boxF tn tv nl c.2.2.1 i = some fl159 by unfold boxF numOfF szF; rw [if_neg (by omega), q120, q140, q158]; rfl]; exact ⟨rfl, m161, ⟨_, f309, fun j hj => rfl⟩, ⟨_, f310⟩⟩⟩
      | some fl141 =>
        rw [q140] at e139
        obtain ⟨e0, m143⟩ := e139
        cases e0
        refine x_if_ne (tgt := 58) dX12_readBox_53 (by decide) (fun c_53 => absurd (by decide) c_53) (fun c_53 => ?_)
        refine x_iconst (v := 0) dX12_readBox_56 (by decide) ?_
        exact x_zret dX12_readBox_57 rfl rfl ⟨sm147, by rw [show boxF tn tv nl c.2.2.1 i = some fl141 by unfold boxF numOfF szF; rw [if_neg (by omega), q120, q140]; rfl]; exact ⟨rfl, m143, ⟨_, f145, fun j hj => rfl⟩, ⟨_, f146⟩⟩⟩
    | some fl121 =>
      rw [q120] at e119
      obtain ⟨e0, m123, sx312⟩ := e119
      cases e0
      have sx312 : Sm [36] h102 h118 := sx312
      have f313 := sx312.at f107 (by decide)
      have f314 := sx312.at f108 (by decide)
      refine x_if_eq (tgt := 56) dX12_readBox_34 (by decide) (fun c_34 => ?_) (fun c_34 => absurd (by decide) c_34)
      refine x_iconst (v := 0) dX12_readBox_56 (by decide) ?_
      exact x_zret dX12_readBox_57 rfl rfl ⟨sm126, by rw [show boxF tn tv nl c.2.2.1 i = some fl121 by unfold boxF numOfF szF; rw [if_neg (by omega), q120]; rfl]; exact ⟨rfl, m123, ⟨_, f313, fun j hj => rfl⟩, ⟨_, f314⟩⟩⟩
  · refine x_aload_n dX12_readBox_19 1 rfl ?_
    refine x_iconst (v := 4) dX12_readBox_20 (by decide) ?_
    refine x_callV (rf' := 0) (rl' := 0) [.int 4] [] dX12_readBox_21 vX12_145 Y_X12_bad f36 (by decide) rfl rfl (Nat.le_of_ble_eq_true rfl) (Nat.le_of_ble_eq_true rfl) (by decide) (by decide) (c_bad (k := 4) htn hv hmt tk f36 f37 (fun z => by have := tk.k1 z; omega)) (fun r h315 e316 => ?_)
    obtain ⟨sm317, e0, m318⟩ := e316
    cases e0
    have sm317 : Sm [36] h h315 := sm317
    have f319 := sm317.at f37 (by decide)
    have f320 := sm317.at f38 (by decide)
    have f321 := sm317.at f40 (by decide)
    have sm322 := sm0.tr (sm317.wide (by decide))
    exact x_zret dX12_readBox_24 rfl rfl ⟨sm322, by rw [show boxF tn tv nl c.2.2.1 i = some (4, i) by unfold boxF; rw [if_pos (by omega)]]; exact ⟨rfl, m318, ⟨_, f320, fun j hj => rfl⟩, ⟨_, f321⟩⟩⟩

set_option maxRecDepth 100000 in
set_option maxHeartbeats 4000000 in
theorem m_readDrop {G : GT} {h : List PE} {tn : Nat} {tv : Nat → Nat} {mtp : Nat → Int32} {flt plc tld too frm knd num sgn : Int32} {wrd : Int64} {x : Nat → Int32} {i : Nat} (htn : tn ≤ 640) (hv : ∀ j, j < tn → tv j < 256) (hmt : ∀ j, j < tn → mtp j = nI (tv j)) (tk : TkM tn tv i too frm knd num sgn wrd) {bk R : Nat → Int32} {nm : Nat → Int64} {nl : NL'} {c : CN} (f36 : h[36]? = some (cO 12 (MO ((x 0)) ((x 1)) ((x 2)) ((x 3)) ((nI tn)) too frm knd num sgn flt plc wrd tld ((x 4)) ((x 5)) ((x 6)) ((x 7)) ((x 8)) ((x 9)) ((x 10)) ((x 11))))) (f37 : h[37]? = some (cI 640 mtp)) (f38 : h[38]? = some (cI 10164 bk)) (f40 : h[40]? = some (cJ 24 nm)) (hR : ∀ j, j < 484 → bk (484 * 20 + j) = R j) (hnp : NmP nm nl c) (W : WFk R c) (hnl : NlOk nl c) (hk : kd tn tv i = 4)  : CT G mX12_readDrop 4 90 [.ref 36] h (MLn h (drpF tn tv nl c.2.2.2 i) tn tv (drpI tn tv i) x flt plc bk (drpR tn tv nl c.2.2.2 i R) nl (c.1, c.2.1, c.2.2.1, c.2.2.2 + 1)) := by
  have hRs := rsort hR W
  have w8 := wf8 W
  have w1 := W.2.1
  have w3 := W.2.2.2.1
  have w5 := W.2.2.2.2.2.1
  have w7 := W.2.2.2.2.2.2.2.1
  have sm0 : Sm [36, 38, 40] h h := Sm.rf
  have hR3 : bk (484 * 20 + 3) = nI (c.2.2.2) := by rw [hR 3 (by decide)]; exact W.2.2.2.2.2.2.1
  show X (NF G) G mX12_readDrop 4 90 0 [(0, .ref 36)] [] h _
  refine x_aload_n dX12_readDrop_0 0 rfl ?_
  refine x_get (v := .ref 38) dX12_readDrop_1 fX12_13 f36 (by decide) rfl ?_
  refine x_bipush (v := 20) dX12_readDrop_4 (by decide) ?_
  refine x_callS (rf' := 0) (rl' := 0) [.int 20] [.ref 38] dX12_readDrop_6 vX12_154 Y_X12_at rfl rfl (Nat.le_of_ble_eq_true rfl) (Nat.le_of_ble_eq_true rfl) (by decide) (by decide) (c_at (b := 20)) (fun _ _ e101 => ?_)
  cases e101
  refine x_iconst (v := 3) dX12_readDrop_9 (by decide) ?_
  refine x_iaddN (a := (484 * 20)) (b := 3) dX12_readDrop_10 ?_
  refine x_ialdN (i := ((484 * 20) + 3)) dX12_readDrop_11 f38 (by decide) (by omega) (by decide) ?_
  rw [show (bk (((484 * 20) + 3))) = nI (c.2.2.2) from (by exact hR3)]
  refine x_istore_n (lv2 := [(1, .int (nI (c.2.2.2))), (0, .ref 36)]) dX12_readDrop_12 (by decide) rfl ?_
  refine x_iload_n dX12_readDrop_13 0 rfl ?_
  refine x_bipush (v := 20) dX12_readDrop_14 (by decide) ?_
  refine x_icmp_neN (tgt := 25) (a := (c.2.2.2)) (b := 20) (by omega) (by omega) dX12_readDrop_16 (by decide) (fun c_16 => ?_) (fun c_16 => ?_)
  · refine x_aload_n dX12_readDrop_25 1 rfl ?_
    refine x_callV (rf' := 1) (rl' := 21) [] [] dX12_readDrop_26 vX12_148 Y_X12_go f36 (by decide) rfl rfl (Nat.le_of_ble_eq_true rfl) (Nat.le_of_ble_eq_true rfl) (by decide) (by decide) (c_goN htn hv hmt tk f36 f37 (by omega)) (fun r h102 e103 => ?_)
    obtain ⟨e0, m105, sm104⟩ := e103
    cases e0
    have sm104 : Sm [36] h h102 := sm104
    have f106 := sm104.at f37 (by decide)
    have f107 := sm104.at f38 (by decide)
    have f108 := sm104.at f40 (by decide)
    have sm109 := sm0.tr (sm104.wide (by decide))
    obtain ⟨m110, m111, m112, m113, m114, m115, f116, tk117⟩ := m105
    have f116 : h102[36]? = some (cO 12 (MO ((x 0)) ((x 1)) ((x 2)) ((x 3)) ((nI tn)) m110 m111 m112 m113 m114 flt plc m115 tld ((x 4)) ((x 5)) ((x 6)) ((x 7)) ((x 8)) ((x 9)) ((x 10)) ((x 11)))) := f116
    have tk117 : TkM tn tv (i + 1) m110 m111 m112 m113 m114 m115 := tk117
    refine x_aload_n dX12_readDrop_29 1 rfl ?_
    refine x_iconst (v := 1) dX12_readDrop_30 (by decide) ?_
    refine x_callV (rf' := 3) (rl' := 66) [.int 1] [] dX12_readDrop_31 vX12_183 Y_X12_readTold f116 (by decide) rfl rfl (Nat.le_of_ble_eq_true rfl) (Nat.le_of_ble_eq_true rfl) (by decide) (by decide) (c_readToldM (k := 1) htn hv hmt tk117 f116 f106 f107 f108 hRs hnp w8 (by decide)) (fun r h118 e119 => ?_)
    obtain ⟨sm122, e119⟩ := e119
    have sm122 : Sm [36] h102 h118 := sm122
    have f124 := sm122.at f106 (by decide)
    have f125 := sm122.at f107 (by decide)
    have f126 := sm122.at f108 (by decide)
    have sm127 := sm109.tr (sm122.wide (by decide))
    cases q120 : tldF tn tv nl 1 (i + 1) with
    | none =>
      rw [q120] at e119
      obtain ⟨e0, m123⟩ := e119
      cases e0
      obtain ⟨m128, m129, m130, m131, m132, m133, f134, tk135⟩ := m123
      have f134 : h118[36]? = some (cO 12 (MO ((x 0)) ((x 1)) ((x 2)) ((x 3)) ((nI tn)) m128 m129 m130 m131 m132 flt plc m133 ((nI (tldV tn tv nl (i + 1)))) ((x 4)) ((x 5)) ((x 6)) ((x 7)) ((x 8)) ((x 9)) ((x 10)) ((x 11)))) := f134
      have tk135 : TkM tn tv (i + 2) m128 m129 m130 m131 m132 m133 := tk135
      have kkq120 := tldE q120
      refine x_if_ne (tgt := 39) dX12_readDrop_34 (by decide) (fun c_34 => ?_) (fun c_34 => absurd c_34 (by decide))
      refine x_sipush (v := 404) dX12_readDrop_39 (by decide) ?_
      refine x_iconst (v := 4) dX12_readDrop_42 (by decide) ?_
      refine x_iload_n dX12_readDrop_43 0 rfl ?_
      refine x_imulN (a := 4) (b := (c.2.2.2)) dX12_readDrop_44 ?_
      refine x_iaddN (a := 404) (b := (4 * (c.2.2.2))) dX12_readDrop_45 ?_
      refine x_istore_n (lv2 := [(2, .int (nI (404 + (4 * (c.2.2.2))))), (1, .int (nI (c.2.2.2))), (0, .ref 36)]) dX12_readDrop_46 (by decide) rfl ?_
      refine x_aload_n dX12_readDrop_47 2 rfl ?_
      refine x_get (v := .ref 38) dX12_readDrop_48 fX12_13 f134 (by decide) rfl ?_
      refine x_bipush (v := 20) dX12_readDrop_51 (by decide) ?_
      refine x_callS (rf' := 0) (rl' := 0) [.int 20] [.ref 38] dX12_readDrop_53 vX12_154 Y_X12_at rfl rfl (Nat.le_of_ble_eq_true rfl) (Nat.le_of_ble_eq_true rfl) (by decide) (by decide) (c_at (b := 20)) (fun _ _ e136 => ?_)
      cases e136
      refine x_iload_n dX12_readDrop_56 0 rfl ?_
      refine x_iaddN (a := (484 * 20)) (b := (404 + (4 * (c.2.2.2)))) dX12_readDrop_57 ?_
      refine x_aload_n dX12_readDrop_58 2 rfl ?_
      refine x_get (v := .int (nI (tldV tn tv nl (i + 1)))) dX12_readDrop_59 fX12_151 f134 (by decide) rfl ?_
      refine x_iastN (i := ((484 * 20) + (404 + (4 * (c.2.2.2))))) dX12_readDrop_62 f125 (by decide) (by omega) (by decide) (fun h137 a138 e139 l140 s141 => ?_)
      have f142 := (e139 36 (by decide)).trans f134
      have f143 := (e139 37 (by decide)).trans f124
      have f144 := (e139 40 (by decide)).trans f126
      have sm145 := Sm.put sm127 e139 l140 s141 (by decide)
      refine x_aload_n dX12_readDrop_63 2 rfl ?_
      refine x_bipush (v := 115) dX12_readDrop_64 (by decide) ?_
      refine x_bipush (v := 105) dX12_readDrop_66 (by decide) ?_
      refine x_bipush (v := 100) dX12_readDrop_68 (by decide) ?_
      refine x_bipush (v := 101) dX12_readDrop_70 (by decide) ?_
      refine x_iconst (v := 0) dX12_readDrop_72 (by decide) ?_
      refine x_callS (rf' := 0) (rl' := 0) [.int 115, .int 105, .int 100, .int 101, .int 0] [.ref 36] dX12_readDrop_73 vX12_109 Y_X12_spelt rfl rfl (Nat.le_of_ble_eq_true rfl) (Nat.le_of_ble_eq_true rfl) (by decide) (by decide) c_spelt12 (fun _ _ e146 => ?_)
      cases e146
      refine x_callV (rf' := 2) (rl' := 45) [.long (lN (k27 12))] [] dX12_readDrop_76 vX12_180 Y_X12_readKey f142 (by decide) rfl rfl (Nat.le_of_ble_eq_true rfl) (Nat.le_of_ble_eq_true rfl) (by decide) (by decide) (c_readKey (n := 12) (by decide) htn hv hmt tk135 f142 f143) (fun r h147 e148 => ?_)
      obtain ⟨sm151, e148⟩ := e148
      have sm151 : Sm [36] h137 h147 := sm151
      have f153 := sm151.at f143 (by decide)
      have f154 := sm151.at a138 (by decide)
      have f155 := sm151.at f144 (by decide)
      have sm156 := sm145.tr (sm151.wide (by decide))
      cases q149 : tokF tn tv 12 (i + 2) with
      | none =>
        rw [q149] at e148
        obtain ⟨e0, m152⟩ := e148
        cases e0
        obtain ⟨m157, m158, m159, m160, m161, m162, f163, tk164⟩ := m152
        have f163 : h147[36]? = some (cO 12 (MO ((x 0)) ((x 1)) ((x 2)) ((x 3)) ((nI tn)) m157 m158 m159 m160 m161 flt plc m162 ((nI (tldV tn tv nl (i + 1)))) ((x 4)) ((x 5)) ((x 6)) ((x 7)) ((x 8)) ((x 9)) ((x 10)) ((x 11)))) := f163
        have tk164 : TkM tn tv (i + 3) m157 m158 m159 m160 m161 m162 := tk164
        have kkq149 := tokE q149
        refine x_if_eq (tgt := 94) dX12_readDrop_79 (by decide) (fun c_79 => absurd c_79 (by decide)) (fun c_79 => ?_)
        refine x_aload_n dX12_readDrop_82 2 rfl ?_
        refine x_iload_n dX12_readDrop_83 0 rfl ?_
        refine x_iconst (v := 1) dX12_readDrop_84 (by decide) ?_
        refine x_iaddN (a := (404 + (4 * (c.2.2.2)))) (b := 1) dX12_readDrop_85 ?_
        refine x_iconst (v := 0) dX12_readDrop_86 (by decide) ?_
        refine x_iconst (v := 5) dX12_readDrop_87 (by decide) ?_
        refine x_callV (rf' := 3) (rl' := 67) [.int (nI ((404 + (4 * (c.2.2.2))) + 1)), .int 0, .int 5] [] dX12_readDrop_88 vX12_167 Y_X12_readInto f163 (by decide) rfl rfl (Nat.le_of_ble_eq_true rfl) (Nat.le_of_ble_eq_true rfl) (by decide) (by decide) (c_readInto (p := ((404 + (4 * (c.2.2.2))) + 1)) (a := 0) (b := 5) htn hv hmt tk164 f163 f153 f154 (by omega)) (fun r h165 e166 => ?_)
        obtain ⟨sm169, e166⟩ := e166
        have sm169 : Sm [36, 38] h147 h165 := sm169
        have f171 := sm169.at f153 (by decide)
        have f172 := sm169.at f155 (by decide)
        have sm173 := sm156.tr (sm169.wide (by decide))
        cases q167 : numF tn tv 0 5 (i + 3) with
        | none =>
          rw [q167] at e166
          obtain ⟨e0, m170, x174⟩ := e166
          cases e0
          obtain ⟨m175, m176, m177, m178, m179, m180, f181, tk182⟩ := m170
          have f181 : h165[36]? = some (cO 12 (MO ((x 0)) ((x 1)) ((x 2)) ((x 3)) ((nI tn)) m175 m176 m177 m178 m179 flt plc m180 ((nI (nv tn tv (i + 3)))) ((x 4)) ((x 5)) ((x 6)) ((x 7)) ((x 8)) ((x 9)) ((x 10)) ((x 11)))) := f181
          have tk182 : TkM tn tv (i + 4) m175 m176 m177 m178 m179 m180 := tk182
          have x174 : h165[38]? = some (cI 10164 ((upd ((upd bk (((484 * 20) + (404 + (4 * (c.2.2.2))))) ((nI (tldV tn tv nl (i + 1)))))) (484 * 20 + (((404 + (4 * (c.2.2.2))) + 1))) (nI (nv tn tv (i + 3)))))) := x174
          have kkq167 := numE q167
          refine x_if_ne (tgt := 96) dX12_readDrop_91 (by decide) (fun c_91 => ?_) (fun c_91 => absurd c_91 (by decide))
          refine x_aload_n dX12_readDrop_96 2 rfl ?_
          refine x_bipush (v := 102) dX12_readDrop_97 (by decide) ?_
          refine x_bipush (v := 114) dX12_readDrop_99 (by decide) ?_
          refine x_bipush (v := 111) dX12_readDrop_101 (by decide) ?_
          refine x_bipush (v := 109) dX12_readDrop_103 (by decide) ?_
          refine x_iconst (v := 0) dX12_readDrop_105 (by decide) ?_
          refine x_callS (rf' := 0) (rl' := 0) [.int 102, .int 114, .int 111, .int 109, .int 0] [.ref 36] dX12_readDrop_106 vX12_109 Y_X12_spelt rfl rfl (Nat.le_of_ble_eq_true rfl) (Nat.le_of_ble_eq_true rfl) (by decide) (by decide) c_spelt15 (fun _ _ e183 => ?_)
          cases e183
          refine x_callV (rf' := 2) (rl' := 45) [.long (lN (k27 15))] [] dX12_readDrop_109 vX12_180 Y_X12_readKey f181 (by decide) rfl rfl (Nat.le_of_ble_eq_true rfl) (Nat.le_of_ble_eq_true rfl) (by decide) (by decide) (c_readKey (n := 15) (by decide) htn hv hmt tk182 f181 f171) (fun r h184 e185 => ?_)
          obtain ⟨sm188, e185⟩ := e185
          have sm188 : Sm [36] h165 h184 := sm188
          have f190 := sm188.at f171 (by decide)
          have f191 := sm188.at x174 (by decide)
          have f192 := sm188.at f172 (by decide)
          have sm193 := sm173.tr (sm188.wide (by decide))
          cases q186 : tokF tn tv 15 (i + 4) with
          | none =>
            rw [q186] at e185
            obtain ⟨e0, m189⟩ := e185
            cases e0
            obtain ⟨m194, m195, m196, m197, m198, m199, f200, tk201⟩ := m189
            have f200 : h184[36]? = some (cO 12 (MO ((x 0)) ((x 1)) ((x 2)) ((x 3)) ((nI tn)) m194 m195 m196 m197 m198 flt plc m199 ((nI (nv tn tv (i + 3)))) ((x 4)) ((x 5)) ((x 6)) ((x 7)) ((x 8)) ((x 9)) ((x 10)) ((x 11)))) := f200
            have tk201 : TkM tn tv (i + 5) m194 m195 m196 m197 m198 m199 := tk201
            have kkq186 := tokE q186
            refine x_if_eq (tgt := 129) dX12_readDrop_112 (by decide) (fun c_112 => absurd c_112 (by decide)) (fun c_112 => ?_)
            refine x_aload_n dX12_readDrop_115 2 rfl ?_
            refine x_iload_n dX12_readDrop_116 0 rfl ?_
            refine x_iconst (v := 2) dX12_readDrop_117 (by decide) ?_
            refine x_iaddN (a := (404 + (4 * (c.2.2.2)))) (b := 2) dX12_readDrop_118 ?_
            refine x_iconst (v := 0) dX12_readDrop_119 (by decide) ?_
            refine x_sipush (v := 30000) dX12_readDrop_120 (by decide) ?_
            refine x_callV (rf' := 3) (rl' := 67) [.int (nI ((404 + (4 * (c.2.2.2))) + 2)), .int 0, .int 30000] [] dX12_readDrop_123 vX12_167 Y_X12_readInto f200 (by decide) rfl rfl (Nat.le_of_ble_eq_true rfl) (Nat.le_of_ble_eq_true rfl) (by decide) (by decide) (c_readInto (p := ((404 + (4 * (c.2.2.2))) + 2)) (a := 0) (b := 30000) htn hv hmt tk201 f200 f190 f191 (by omega)) (fun r h202 e203 => ?_)
            obtain ⟨sm206, e203⟩ := e203
            have sm206 : Sm [36, 38] h184 h202 := sm206
            have f208 := sm206.at f190 (by decide)
            have f209 := sm206.at f192 (by decide)
            have sm210 := sm193.tr (sm206.wide (by decide))
            cases q204 : numF tn tv 0 30000 (i + 5) with
            | none =>
              rw [q204] at e203
              obtain ⟨e0, m207, x211⟩ := e203
              cases e0
              obtain ⟨m212, m213, m214, m215, m216, m217, f218, tk219⟩ := m207
              have f218 : h202[36]? = some (cO 12 (MO ((x 0)) ((x 1)) ((x 2)) ((x 3)) ((nI tn)) m212 m213 m214 m215 m216 flt plc m217 ((nI (nv tn tv (i + 5)))) ((x 4)) ((x 5)) ((x 6)) ((x 7)) ((x 8)) ((x 9)) ((x 10)) ((x 11)))) := f218
              have tk219 : TkM tn tv (i + 6) m212 m213 m214 m215 m216 m217 := tk219
              have x211 : h202[38]? = some (cI 10164 ((upd ((upd ((upd bk (((484 * 20) + (404 + (4 * (c.2.2.2))))) ((nI (tldV tn tv nl (i + 1)))))) (484 * 20 + (((404 + (4 * (c.2.2.2))) + 1))) (nI (nv tn tv (i + 3))))) (484 * 20 + (((404 + (4 * (c.2.2.2))) + 2))) (nI (nv tn tv (i + 5)))))) := x211
              have kkq204 := numE q204
              refine x_if_ne (tgt := 131) dX12_readDrop_126 (by decide) (fun c_126 => ?_) (fun c_126 => absurd c_126 (by decide))
              refine x_aload_n dX12_readDrop_131 2 rfl ?_
              refine x_get (v := .ref 38) dX12_readDrop_132 fX12_13 f218 (by decide) rfl ?_
              refine x_bipush (v := 20) dX12_readDrop_135 (by decide) ?_
              refine x_callS (rf' := 0) (rl' := 0) [.int 20] [.ref 38] dX12_readDrop_137 vX12_154 Y_X12_at rfl rfl (Nat.le_of_ble_eq_true rfl) (Nat.le_of_ble_eq_true rfl) (by decide) (by decide) (c_at (b := 20)) (fun _ _ e220 => ?_)
              cases e220
              refine x_iload_n dX12_readDrop_140 0 rfl ?_
              refine x_iaddN (a := (484 * 20)) (b := (404 + (4 * (c.2.2.2)))) dX12_readDrop_141 ?_
              refine x_iconst (v := 3) dX12_readDrop_142 (by decide) ?_
              refine x_iaddN (a := ((484 * 20) + (404 + (4 * (c.2.2.2))))) (b := 3) dX12_readDrop_143 ?_
              refine x_iconst (v := 1) dX12_readDrop_144 (by decide) ?_
              refine x_iastN (i := (((484 * 20) + (404 + (4 * (c.2.2.2)))) + 3)) dX12_readDrop_145 x211 (by decide) (by omega) (by decide) (fun h221 a222 e223 l224 s225 => ?_)
              have f226 := (e223 36 (by decide)).trans f218
              have f227 := (e223 37 (by decide)).trans f208
              have f228 := (e223 40 (by decide)).trans f209
              have sm229 := Sm.put sm210 e223 l224 s225 (by decide)
              refine x_aload_n dX12_readDrop_146 2 rfl ?_
              refine x_bipush (v := 116) dX12_readDrop_147 (by decide) ?_
              refine x_bipush (v := 105) dX12_readDrop_149 (by decide) ?_
              refine x_bipush (v := 109) dX12_readDrop_151 (by decide) ?_
              refine x_bipush (v := 101) dX12_readDrop_153 (by decide) ?_
              refine x_bipush (v := 115) dX12_readDrop_155 (by decide) ?_
              refine x_callS (rf' := 0) (rl' := 0) [.int 116, .int 105, .int 109, .int 101, .int 115] [.ref 36] dX12_readDrop_157 vX12_109 Y_X12_spelt rfl rfl (Nat.le_of_ble_eq_true rfl) (Nat.le_of_ble_eq_true rfl) (by decide) (by decide) c_spelt16 (fun _ _ e230 => ?_)
              cases e230
              refine x_callV (rf' := 0) (rl' := 0) [.long (lN (k27 16))] [] dX12_readDrop_160 vX12_113 Y_X12_isKey f226 (by decide) rfl rfl (Nat.le_of_ble_eq_true rfl) (Nat.le_of_ble_eq_true rfl) (by decide) (by decide) (c_isKey (n := 16) (by decide) htn hv hmt tk219 f226 f227) (fun _ _ e231 => ?_)
              cases e231
              by_cases k232 : kd tn tv (i + 6) = 16
              · rw [if_pos k232]
                refine x_if_eq (tgt := 185) dX12_readDrop_163 (by decide) (fun c_163 => absurd c_163 (by decide)) (fun c_163 => ?_)
                refine x_aload_n dX12_readDrop_166 2 rfl ?_
                refine x_callV (rf' := 1) (rl' := 21) [] [] dX12_readDrop_167 vX12_148 Y_X12_go f226 (by decide) rfl rfl (Nat.le_of_ble_eq_true rfl) (Nat.le_of_ble_eq_true rfl) (by decide) (by decide) (c_goN htn hv hmt tk219 f226 f227 (by omega)) (fun r h233 e234 => ?_)
                obtain ⟨e0, m236, sm235⟩ := e234
                cases e0
                have sm235 : Sm [36] h221 h233 := sm235
                have f237 := sm235.at f227 (by decide)
                have f238 := sm235.at a222 (by decide)
                have f239 := sm235.at f228 (by decide)
                have sm240 := sm229.tr (sm235.wide (by decide))
                obtain ⟨m241, m242, m243, m244, m245, m246, f247, tk248⟩ := m236
                have f247 : h233[36]? = some (cO 12 (MO ((x 0)) ((x 1)) ((x 2)) ((x 3)) ((nI tn)) m241 m242 m243 m244 m245 flt plc m246 ((nI (nv tn tv (i + 5)))) ((x 4)) ((x 5)) ((x 6)) ((x 7)) ((x 8)) ((x 9)) ((x 10)) ((x 11)))) := f247
                have tk248 : TkM tn tv (i + 7) m241 m242 m243 m244 m245 m246 := tk248
                refine x_aload_n dX12_readDrop_170 2 rfl ?_
                refine x_iload_n dX12_readDrop_171 0 rfl ?_
                refine x_iconst (v := 3) dX12_readDrop_172 (by decide) ?_
                refine x_iaddN (a := (404 + (4 * (c.2.2.2)))) (b := 3) dX12_readDrop_173 ?_
                refine x_iconst (v := 1) dX12_readDrop_174 (by decide) ?_
                refine x_bipush (v := 20) dX12_readDrop_175 (by decide) ?_
                refine x_callV (rf' := 3) (rl' := 67) [.int (nI ((404 + (4 * (c.2.2.2))) + 3)), .int 1, .int 20] [] dX12_readDrop_177 vX12_167 Y_X12_readInto f247 (by decide) rfl rfl (Nat.le_of_ble_eq_true rfl) (Nat.le_of_ble_eq_true rfl) (by decide) (by decide) (c_readInto (p := ((404 + (4 * (c.2.2.2))) + 3)) (a := 1) (b := 20) htn hv hmt tk248 f247 f237 f238 (by omega)) (fun r h249 e250 => ?_)
                obtain ⟨sm253, e250⟩ := e250
                have sm253 : Sm [36, 38] h233 h249 := sm253
                have f255 := sm253.at f237 (by decide)
                have f256 := sm253.at f239 (by decide)
                have sm257 := sm240.tr (sm253.wide (by decide))
                cases q251 : numF tn tv 1 20 (i + 7) with
                | none =>
                  rw [q251] at e250
                  obtain ⟨e0, m254, x258⟩ := e250
                  cases e0
                  obtain ⟨m259, m260, m261, m262, m263, m264, f265, tk266⟩ := m254
                  have f265 : h249[36]? = some (cO 12 (MO ((x 0)) ((x 1)) ((x 2)) ((x 3)) ((nI tn)) m259 m260 m261 m262 m263 flt plc m264 ((nI (nv tn tv (i + 7)))) ((x 4)) ((x 5)) ((x 6)) ((x 7)) ((x 8)) ((x 9)) ((x 10)) ((x 11)))) := f265
                  have tk266 : TkM tn tv (i + 8) m259 m260 m261 m262 m263 m264 := tk266
                  have x258 : h249[38]? = some (cI 10164 ((upd ((upd ((upd ((upd ((upd bk (((484 * 20) + (404 + (4 * (c.2.2.2))))) ((nI (tldV tn tv nl (i + 1)))))) (484 * 20 + (((404 + (4 * (c.2.2.2))) + 1))) (nI (nv tn tv (i + 3))))) (484 * 20 + (((404 + (4 * (c.2.2.2))) + 2))) (nI (nv tn tv (i + 5))))) ((((484 * 20) + (404 + (4 * (c.2.2.2)))) + 3)) 1)) (484 * 20 + (((404 + (4 * (c.2.2.2))) + 3))) (nI (nv tn tv (i + 7)))))) := x258
                  have kkq251 := numE q251
                  refine x_if_ne (tgt := 185) dX12_readDrop_180 (by decide) (fun c_180 => ?_) (fun c_180 => absurd c_180 (by decide))
                  refine x_aload_n dX12_readDrop_185 2 rfl ?_
                  refine x_get (v := .ref 38) dX12_readDrop_186 fX12_13 f265 (by decide) rfl ?_
                  refine x_bipush (v := 20) dX12_readDrop_189 (by decide) ?_
                  refine x_callS (rf' := 0) (rl' := 0) [.int 20] [.ref 38] dX12_readDrop_191 vX12_154 Y_X12_at rfl rfl (Nat.le_of_ble_eq_true rfl) (Nat.le_of_ble_eq_true rfl) (by decide) (by decide) (c_at (b := 20)) (fun _ _ e267 => ?_)
                  cases e267
                  refine x_iconst (v := 3) dX12_readDrop_194 (by decide) ?_
                  refine x_iaddN (a := (484 * 20)) (b := 3) dX12_readDrop_195 ?_
                  refine x_dup2 dX12_readDrop_196 rfl rfl ?_
                  refine x_ialdN (i := ((484 * 20) + 3)) dX12_readDrop_197 x258 (by decide) (by omega) (by decide) ?_
                  rw [show (((upd ((upd ((upd ((upd ((upd bk (((484 * 20) + (404 + (4 * (c.2.2.2))))) ((nI (tldV tn tv nl (i + 1)))))) (484 * 20 + (((404 + (4 * (c.2.2.2))) + 1))) (nI (nv tn tv (i + 3))))) (484 * 20 + (((404 + (4 * (c.2.2.2))) + 2))) (nI (nv tn tv (i + 5))))) ((((484 * 20) + (404 + (4 * (c.2.2.2)))) + 3)) 1)) (484 * 20 + (((404 + (4 * (c.2.2.2))) + 3))) (nI (nv tn tv (i + 7))))) (((484 * 20) + 3))) = nI (c.2.2.2) from (by rw [pk_un (by omega)];rw [pk_un (by omega)];rw [pk_un (by omega)];rw [pk_un (by omega)];rw [pk_un (by omega)]; exact hR3)]
                  refine x_iconst (v := 1) dX12_readDrop_198 (by decide) ?_
                  refine x_iaddN (a := (c.2.2.2)) (b := 1) dX12_readDrop_199 ?_
                  refine x_iastN (i := ((484 * 20) + 3)) dX12_readDrop_200 x258 (by decide) (by omega) (by decide) (fun h268 a269 e270 l271 s272 => ?_)
                  have f273 := (e270 36 (by decide)).trans f265
                  have f274 := (e270 37 (by decide)).trans f255
                  have f275 := (e270 40 (by decide)).trans f256
                  have sm276 := Sm.put sm257 e270 l271 s272 (by decide)
                  refine x_iconst (v := 1) dX12_readDrop_201 (by decide) ?_
                  exact x_zret dX12_readDrop_202 rfl rfl ⟨sm276, by rw [show drpF tn tv nl c.2.2.2 i = none by unfold drpF numOfF; rw [if_neg (by omega), q120, q149, q167, q186, q204, if_pos k232, show tokF tn tv 16 (i + 6) = none from if_pos k232, q251]; rfl]; unfold drpI; rw [if_pos k232]; exact ⟨rfl, ⟨_, ⟨_, _, _, _, _, _, f273, tk266⟩⟩, ⟨_, a269, fun j hj => by rw [pk_un (by omega)]; rw [pk_un (by omega)]; rw [pk_un (by omega)]; rw [pk_un (by omega)]; rw [pk_un (by omega)]; rw [pk_un (by omega)], drp_cong1 hR k232⟩, ⟨_, f275, hnp⟩⟩⟩
                | some fl252 =>
                  rw [q251] at e250
                  obtain ⟨e0, m254, sx277⟩ := e250
                  cases e0
                  have sx277 : Sm [36] h233 h249 := sx277
                  have f278 := sx277.at f238 (by decide)
                  have f279 := sx277.at f239 (by decide)
                  refine x_if_ne (tgt := 185) dX12_readDrop_180 (by decide) (fun c_180 => absurd (by decide) c_180) (fun c_180 => ?_)
                  refine x_iconst (v := 0) dX12_readDrop_183 (by decide) ?_
                  exact x_zret dX12_readDrop_184 rfl rfl ⟨sm257, by rw [show drpF tn tv nl c.2.2.2 i = some fl252 by unfold drpF numOfF; rw [if_neg (by omega), q120, q149, q167, q186, q204, if_pos k232, show tokF tn tv 16 (i + 6) = none from if_pos k232, q251]; rfl]; exact ⟨rfl, m254, ⟨_, f278, fun j hj => by rw [pk_un (by omega)]; rw [pk_un (by omega)]; rw [pk_un (by omega)]; rw [pk_un (by omega)]⟩, ⟨_, f279⟩⟩⟩
              · rw [if_neg k232]
                refine x_if_eq (tgt := 185) dX12_readDrop_163 (by decide) (fun c_163 => ?_) (fun c_163 => absurd (by decide) c_163)
                refine x_aload_n dX12_readDrop_185 2 rfl ?_
                refine x_get (v := .ref 38) dX12_readDrop_186 fX12_13 f226 (by decide) rfl ?_
                refine x_bipush (v := 20) dX12_readDrop_189 (by decide) ?_
                refine x_callS (rf' := 0) (rl' := 0) [.int 20] [.ref 38] dX12_readDrop_191 vX12_154 Y_X12_at rfl rfl (Nat.le_of_ble_eq_true rfl) (Nat.le_of_ble_eq_true rfl) (by decide) (by decide) (c_at (b := 20)) (fun _ _ e280 => ?_)
                cases e280
                refine x_iconst (v := 3) dX12_readDrop_194 (by decide) ?_
                refine x_iaddN (a := (484 * 20)) (b := 3) dX12_readDrop_195 ?_
                refine x_dup2 dX12_readDrop_196 rfl rfl ?_
                refine x_ialdN (i := ((484 * 20) + 3)) dX12_readDrop_197 a222 (by decide) (by omega) (by decide) ?_
                rw [show (((upd ((upd ((upd ((upd bk (((484 * 20) + (404 + (4 * (c.2.2.2))))) ((nI (tldV tn tv nl (i + 1)))))) (484 * 20 + (((404 + (4 * (c.2.2.2))) + 1))) (nI (nv tn tv (i + 3))))) (484 * 20 + (((404 + (4 * (c.2.2.2))) + 2))) (nI (nv tn tv (i + 5))))) ((((484 * 20) + (404 + (4 * (c.2.2.2)))) + 3)) 1)) (((484 * 20) + 3))) = nI (c.2.2.2) from (by rw [pk_un (by omega)];rw [pk_un (by omega)];rw [pk_un (by omega)];rw [pk_un (by omega)]; exact hR3)]
                refine x_iconst (v := 1) dX12_readDrop_198 (by decide) ?_
                refine x_iaddN (a := (c.2.2.2)) (b := 1) dX12_readDrop_199 ?_
                refine x_iastN (i := ((484 * 20) + 3)) dX12_readDrop_200 a222 (by decide) (by omega) (by decide) (fun h281 a282 e283 l284 s285 => ?_)
                have f286 := (e283 36 (by decide)).trans f226
                have f287 := (e283 37 (by decide)).trans f227
                have f288 := (e283 40 (by decide)).trans f228
                have sm289 := Sm.put sm229 e283 l284 s285 (by decide)
                refine x_iconst (v := 1) dX12_readDrop_201 (by decide) ?_
                exact x_zret dX12_readDrop_202 rfl rfl ⟨sm289, by rw [show drpF tn tv nl c.2.2.2 i = none by unfold drpF numOfF; rw [if_neg (by omega), q120, q149, q167, q186, q204, if_neg k232]; rfl]; unfold drpI; rw [if_neg k232]; exact ⟨rfl, ⟨_, ⟨_, _, _, _, _, _, f286, tk219⟩⟩, ⟨_, a282, fun j hj => by rw [pk_un (by omega)]; rw [pk_un (by omega)]; rw [pk_un (by omega)]; rw [pk_un (by omega)]; rw [pk_un (by omega)], drp_cong0 hR k232⟩, ⟨_, f288, hnp⟩⟩⟩
            | some fl205 =>
              rw [q204] at e203
              obtain ⟨e0, m207, sx290⟩ := e203
              cases e0
              have sx290 : Sm [36] h184 h202 := sx290
              have f291 := sx290.at f191 (by decide)
              have f292 := sx290.at f192 (by decide)
              refine x_if_ne (tgt := 131) dX12_readDrop_126 (by decide) (fun c_126 => absurd (by decide) c_126) (fun c_126 => ?_)
              refine x_iconst (v := 0) dX12_readDrop_129 (by decide) ?_
              exact x_zret dX12_readDrop_130 rfl rfl ⟨sm210, by rw [show drpF tn tv nl c.2.2.2 i = some fl205 by unfold drpF numOfF; rw [if_neg (by omega), q120, q149, q167, q186, q204]; rfl]; exact ⟨rfl, m207, ⟨_, f291, fun j hj => by rw [pk_un (by omega)]; rw [pk_un (by omega)]⟩, ⟨_, f292⟩⟩⟩
          | some fl187 =>
            rw [q186] at e185
            obtain ⟨e0, m189⟩ := e185
            cases e0
            refine x_if_eq (tgt := 129) dX12_readDrop_112 (by decide) (fun c_112 => ?_) (fun c_112 => absurd (by decide) c_112)
            refine x_iconst (v := 0) dX12_readDrop_129 (by decide) ?_
            exact x_zret dX12_readDrop_130 rfl rfl ⟨sm193, by rw [show drpF tn tv nl c.2.2.2 i = some fl187 by unfold drpF numOfF; rw [if_neg (by omega), q120, q149, q167, q186]; rfl]; exact ⟨rfl, m189, ⟨_, f191, fun j hj => by rw [pk_un (by omega)]; rw [pk_un (by omega)]⟩, ⟨_, f192⟩⟩⟩
        | some fl168 =>
          rw [q167] at e166
          obtain ⟨e0, m170, sx294⟩ := e166
          cases e0
          have sx294 : Sm [36] h147 h165 := sx294
          have f295 := sx294.at f154 (by decide)
          have f296 := sx294.at f155 (by decide)
          refine x_if_ne (tgt := 96) dX12_readDrop_91 (by decide) (fun c_91 => absurd (by decide) c_91) (fun c_91 => ?_)
          refine x_iconst (v := 0) dX12_readDrop_94 (by decide) ?_
          exact x_zret dX12_readDrop_95 rfl rfl ⟨sm173, by rw [show drpF tn tv nl c.2.2.2 i = some fl168 by unfold drpF numOfF; rw [if_neg (by omega), q120, q149, q167]; rfl]; exact ⟨rfl, m170, ⟨_, f295, fun j hj => by rw [pk_un (by omega)]⟩, ⟨_, f296⟩⟩⟩
      | some fl150 =>
        rw [q149] at e148
        obtain ⟨e0, m152⟩ := e148
        cases e0
        refine x_if_eq (tgt := 94) dX12_readDrop_79 (by decide) (fun c_79 => ?_) (fun c_79 => absurd (by decide) c_79)
        refine x_iconst (v := 0) dX12_readDrop_94 (by decide) ?_
        exact x_zret dX12_readDrop_95 rfl rfl ⟨sm156, by rw [show drpF tn tv nl c.2.2.2 i = some fl150 by unfold drpF numOfF; rw [if_neg (by omega), q120, q149]; rfl]; exact ⟨rfl, m152, ⟨_, f154, fun j hj => by rw [pk_un (by omega)]⟩, ⟨_, f155⟩⟩⟩
    | some fl121 =>
      rw [q120] at e119
      obtain ⟨e0, m123⟩ := e119
      cases e0
      refine x_if_ne (tgt := 39) dX12_readDrop_34 (by decide) (fun c_34 => absurd (by decide) c_34) (fun c_34 => ?_)
      refine x_iconst (v := 0) dX12_readDrop_37 (by decide) ?_
      exact x_zret dX12_readDrop_38 rfl rfl ⟨sm127, by rw [show drpF tn tv nl c.2.2.2 i = some fl121 by unfold drpF numOfF; rw [if_neg (by omega), q120]; rfl]; exact ⟨rfl, m123, ⟨_, f125, fun j hj => rfl⟩, ⟨_, f126⟩⟩⟩
  · refine x_aload_n dX12_readDrop_19 1 rfl ?_
    refine x_iconst (v := 4) dX12_readDrop_20 (by decide) ?_
    refine x_callV (rf' := 0) (rl' := 0) [.int 4] [] dX12_readDrop_21 vX12_145 Y_X12_bad f36 (by decide) rfl rfl (Nat.le_of_ble_eq_true rfl) (Nat.le_of_ble_eq_true rfl) (by decide) (by decide) (c_bad (k := 4) htn hv hmt tk f36 f37 (fun z => by have := tk.k1 z; omega)) (fun r h299 e300 => ?_)
    obtain ⟨sm301, e0, m302⟩ := e300
    cases e0
    have sm301 : Sm [36] h h299 := sm301
    have f303 := sm301.at f37 (by decide)
    have f304 := sm301.at f38 (by decide)
    have f305 := sm301.at f40 (by decide)
    have sm306 := sm0.tr (sm301.wide (by decide))
    exact x_zret dX12_readDrop_24 rfl rfl ⟨sm306, by rw [show drpF tn tv nl c.2.2.2 i = some (4, i) by unfold drpF; rw [if_pos (by omega)]]; exact ⟨rfl, m302, ⟨_, f304, fun j hj => rfl⟩, ⟨_, f305⟩⟩⟩

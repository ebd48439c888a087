theorem pad_cong {tn i : Nat} {tv : Nat → Nat} {nl : NL'} {bk R : Nat → Int32} (hR : ∀ j, j < 484 → bk (484 * 20 + j) = R j) : ∀ j, j < 484 → (upd (upd (upd bk (484 * 20 + (164 + 24 * (tldV tn tv nl (i + 1)) + 5 + 3 * (nv tn tv (i + 3)))) (nI (tldV tn tv nl (i + 4) + 1))) (484 * 20 + ((164 + 24 * (tldV tn tv nl (i + 1)) + 5 + 3 * (nv tn tv (i + 3))) + 1)) (nI (nv tn tv (i + 6)))) (484 * 20 + ((164 + 24 * (tldV tn tv nl (i + 1)) + 5 + 3 * (nv tn tv (i + 3))) + 2)) (nI (nv tn tv (i + 8)))) (484 * 20 + j) = padR tn tv nl i R j := by
  intro j hj
  have hP : padP tn tv nl i = (164 + 24 * (tldV tn tv nl (i + 1)) + 5 + 3 * (nv tn tv (i + 3))) := rfl
  unfold padR
  rw [hP]
  by_cases e2 : j = (164 + 24 * (tldV tn tv nl (i + 1)) + 5 + 3 * (nv tn tv (i + 3))) + 2
  · rw [if_neg (by omega), if_neg (by omega), if_pos e2, e2, pk_us]
  rw [pk_un (by omega)]
  by_cases e1 : j = (164 + 24 * (tldV tn tv nl (i + 1)) + 5 + 3 * (nv tn tv (i + 3))) + 1
  · rw [if_neg (by omega), if_pos e1, e1, pk_us]
  rw [pk_un (by omega)]
  by_cases e0 : j = (164 + 24 * (tldV tn tv nl (i + 1)) + 5 + 3 * (nv tn tv (i + 3)))
  · rw [if_pos e0, e0, pk_us]
  rw [pk_un (by omega), if_neg e0, if_neg e1, if_neg e2]
  exact hR j hj

set_option maxRecDepth 100000 in
set_option maxHeartbeats 4000000 in
theorem m_readPad {G : GT} {h : List PE} {tn : Nat} {tv : Nat → Nat} {mtp : Nat → Int32} {flt plc tld too frm knd num sgn : Int32} {wrd : Int64} {x : Nat → Int32} {i : Nat} (htn : tn ≤ 640) (hv : ∀ j, j < tn → tv j < 256) (hmt : ∀ j, j < tn → mtp j = nI (tv j)) (tk : TkM tn tv i too frm knd num sgn wrd) {bk R : Nat → Int32} {nm : Nat → Int64} {nl : NL'} {c : CN} (f36 : h[36]? = some (cO 12 (MO ((x 0)) ((x 1)) ((x 2)) ((x 3)) ((nI tn)) too frm knd num sgn flt plc wrd tld ((x 4)) ((x 5)) ((x 6)) ((x 7)) ((x 8)) ((x 9)) ((x 10)) ((x 11))))) (f37 : h[37]? = some (cI 640 mtp)) (f38 : h[38]? = some (cI 10164 bk)) (f40 : h[40]? = some (cJ 24 nm)) (hR : ∀ j, j < 484 → bk (484 * 20 + j) = R j) (hnp : NmP nm nl c) (W : WFk R c) (hnl : NlOk nl c) (hk : kd tn tv i = 3)  : CT G mX12_readPad 4 90 [.ref 36] h (MLn h (padF tn tv nl i R) tn tv (i + 9) x flt plc bk (padR tn tv nl i R) nl c) := by
  have hRs := rsort hR W
  have w8 := wf8 W
  have w1 := W.2.1
  have w3 := W.2.2.2.1
  have w5 := W.2.2.2.2.2.1
  have w7 := W.2.2.2.2.2.2.2.1
  have sm0 : Sm [36, 38, 40] h h := Sm.rf
  show X (NF G) G mX12_readPad 4 90 0 [(0, .ref 36)] [] h _
  refine x_aload_n dX12_readPad_0 0 rfl ?_
  refine x_callV (rf' := 1) (rl' := 21) [] [] dX12_readPad_1 vX12_148 Y_X12_go f36 (by decide) rfl rfl (Nat.le_of_ble_eq_true rfl) (Nat.le_of_ble_eq_true rfl) (by decide) (by decide) (c_goN htn hv hmt tk f36 f37 (by omega)) (fun r h101 e102 => ?_)
  obtain ⟨e0, m104, sm103⟩ := e102
  cases e0
  have sm103 : Sm [36] h h101 := sm103
  have f105 := sm103.at f37 (by decide)
  have f106 := sm103.at f38 (by decide)
  have f107 := sm103.at f40 (by decide)
  have sm108 := sm0.tr (sm103.wide (by decide))
  obtain ⟨m109, m110, m111, m112, m113, m114, f115, tk116⟩ := m104
  have f115 : h101[36]? = some (cO 12 (MO ((x 0)) ((x 1)) ((x 2)) ((x 3)) ((nI tn)) m109 m110 m111 m112 m113 flt plc m114 tld ((x 4)) ((x 5)) ((x 6)) ((x 7)) ((x 8)) ((x 9)) ((x 10)) ((x 11)))) := f115
  have tk116 : TkM tn tv (i + 1) m109 m110 m111 m112 m113 m114 := tk116
  refine x_aload_n dX12_readPad_4 0 rfl ?_
  refine x_iconst (v := 1) dX12_readPad_5 (by decide) ?_
  refine x_callV (rf' := 3) (rl' := 66) [.int 1] [] dX12_readPad_6 vX12_183 Y_X12_readTold f115 (by decide) rfl rfl (Nat.le_of_ble_eq_true rfl) (Nat.le_of_ble_eq_true rfl) (by decide) (by decide) (c_readToldM (k := 1) htn hv hmt tk116 f115 f105 f106 f107 hRs hnp w8 (by decide)) (fun r h117 e118 => ?_)
  obtain ⟨sm121, e118⟩ := e118
  have sm121 : Sm [36] h101 h117 := sm121
  have f123 := sm121.at f105 (by decide)
  have f124 := sm121.at f106 (by decide)
  have f125 := sm121.at f107 (by decide)
  have sm126 := sm108.tr (sm121.wide (by decide))
  cases q119 : tldF tn tv nl 1 (i + 1) with
  | none =>
    rw [q119] at e118
    obtain ⟨e0, m122⟩ := e118
    cases e0
    obtain ⟨m127, m128, m129, m130, m131, m132, f133, tk134⟩ := m122
    have f133 : h117[36]? = some (cO 12 (MO ((x 0)) ((x 1)) ((x 2)) ((x 3)) ((nI tn)) m127 m128 m129 m130 m131 flt plc m132 ((nI (tldV tn tv nl (i + 1)))) ((x 4)) ((x 5)) ((x 6)) ((x 7)) ((x 8)) ((x 9)) ((x 10)) ((x 11)))) := f133
    have tk134 : TkM tn tv (i + 2) m127 m128 m129 m130 m131 m132 := tk134
    have kkq119 := tldE q119
    refine x_if_ne (tgt := 14) dX12_readPad_9 (by decide) (fun c_9 => ?_) (fun c_9 => absurd c_9 (by decide))
    have ht := (tld_in hnl q119).2 rfl
    refine x_sipush (v := 164) dX12_readPad_14 (by decide) ?_
    refine x_bipush (v := 24) dX12_readPad_17 (by decide) ?_
    refine x_aload_n dX12_readPad_19 0 rfl ?_
    refine x_get (v := .int (nI (tldV tn tv nl (i + 1)))) dX12_readPad_20 fX12_151 f133 (by decide) rfl ?_
    refine x_imulN (a := 24) (b := (tldV tn tv nl (i + 1))) dX12_readPad_23 ?_
    refine x_iaddN (a := 164) (b := (24 * (tldV tn tv nl (i + 1)))) dX12_readPad_24 ?_
    refine x_istore_n (lv2 := [(1, .int (nI (164 + (24 * (tldV tn tv nl (i + 1)))))), (0, .ref 36)]) dX12_readPad_25 (by decide) rfl ?_
    refine x_aload_n dX12_readPad_26 1 rfl ?_
    refine x_bipush (v := 115) dX12_readPad_27 (by decide) ?_
    refine x_bipush (v := 105) dX12_readPad_29 (by decide) ?_
    refine x_bipush (v := 100) dX12_readPad_31 (by decide) ?_
    refine x_bipush (v := 101) dX12_readPad_33 (by decide) ?_
    refine x_iconst (v := 0) dX12_readPad_35 (by decide) ?_
    refine x_callS (rf' := 0) (rl' := 0) [.int 115, .int 105, .int 100, .int 101, .int 0] [.ref 36] dX12_readPad_36 vX12_109 Y_X12_spelt rfl rfl (Nat.le_of_ble_eq_true rfl) (Nat.le_of_ble_eq_true rfl) (by decide) (by decide) c_spelt12 (fun _ _ e135 => ?_)
    cases e135
    refine x_callV (rf' := 2) (rl' := 45) [.long (lN (k27 12))] [] dX12_readPad_39 vX12_180 Y_X12_readKey f133 (by decide) rfl rfl (Nat.le_of_ble_eq_true rfl) (Nat.le_of_ble_eq_true rfl) (by decide) (by decide) (c_readKey (n := 12) (by decide) htn hv hmt tk134 f133 f123) (fun r h136 e137 => ?_)
    obtain ⟨sm140, e137⟩ := e137
    have sm140 : Sm [36] h117 h136 := sm140
    have f142 := sm140.at f123 (by decide)
    have f143 := sm140.at f124 (by decide)
    have f144 := sm140.at f125 (by decide)
    have sm145 := sm126.tr (sm140.wide (by decide))
    cases q138 : tokF tn tv 12 (i + 2) with
    | none =>
      rw [q138] at e137
      obtain ⟨e0, m141⟩ := e137
      cases e0
      obtain ⟨m146, m147, m148, m149, m150, m151, f152, tk153⟩ := m141
      have f152 : h136[36]? = some (cO 12 (MO ((x 0)) ((x 1)) ((x 2)) ((x 3)) ((nI tn)) m146 m147 m148 m149 m150 flt plc m151 ((nI (tldV tn tv nl (i + 1)))) ((x 4)) ((x 5)) ((x 6)) ((x 7)) ((x 8)) ((x 9)) ((x 10)) ((x 11)))) := f152
      have tk153 : TkM tn tv (i + 3) m146 m147 m148 m149 m150 m151 := tk153
      have kkq138 := tokE q138
      refine x_if_ne (tgt := 47) dX12_readPad_42 (by decide) (fun c_42 => ?_) (fun c_42 => absurd c_42 (by decide))
      refine x_aload_n dX12_readPad_47 1 rfl ?_
      refine x_get (v := .int m148) dX12_readPad_48 fX12_81 f152 (by decide) rfl ?_
      refine x_iconst (v := 3) dX12_readPad_51 (by decide) ?_
      refine x_icmp_eq (tgt := 61) dX12_readPad_52 (by decide) (fun c_52 => ?_) (fun c_52 => ?_)
      · have k18 := tk153.k3.mp c_52
        have en := (tk153.2.2.2.2.1 k18).2
        have ln := kd_num k18
        have w36 : h136[36]? = some (cO 12 (MO ((x 0)) ((x 1)) ((x 2)) ((x 3)) ((nI tn)) m146 m147 m148 ((nI (nv tn tv (i + 3)))) m150 flt plc m151 ((nI (tldV tn tv nl (i + 1)))) ((x 4)) ((x 5)) ((x 6)) ((x 7)) ((x 8)) ((x 9)) ((x 10)) ((x 11)))) := by rw [← en]; exact f152
        have tw : TkM tn tv (i + 3) m146 m147 m148 (nI (nv tn tv (i + 3))) m150 m151 := by rw [← en]; exact tk153
        refine x_aload_n dX12_readPad_61 1 rfl ?_
        refine x_get (v := .int (nI (nv tn tv (i + 3)))) dX12_readPad_62 fX12_98 w36 (by decide) rfl ?_
        refine x_iconst (v := 5) dX12_readPad_65 (by decide) ?_
        refine x_icmp_le (tgt := 75) dX12_readPad_66 (by decide) (fun c_66 => ?_) (fun c_66 => ?_)
        · have hs : (nv tn tv (i + 3)) ≤ 5 := (nI_leI (b := 5) (by omega) (by decide)).mp c_66
          refine x_iload_n dX12_readPad_75 0 rfl ?_
          refine x_iconst (v := 5) dX12_readPad_76 (by decide) ?_
          refine x_iaddN (a := (164 + (24 * (tldV tn tv nl (i + 1))))) (b := 5) dX12_readPad_77 ?_
          refine x_iconst (v := 3) dX12_readPad_78 (by decide) ?_
          refine x_aload_n dX12_readPad_79 1 rfl ?_
          refine x_get (v := .int (nI (nv tn tv (i + 3)))) dX12_readPad_80 fX12_98 w36 (by decide) rfl ?_
          refine x_imulN (a := 3) (b := (nv tn tv (i + 3))) dX12_readPad_83 ?_
          refine x_iaddN (a := ((164 + (24 * (tldV tn tv nl (i + 1)))) + 5)) (b := (3 * (nv tn tv (i + 3)))) dX12_readPad_84 ?_
          refine x_istore_n (lv2 := [(2, .int (nI (((164 + (24 * (tldV tn tv nl (i + 1)))) + 5) + (3 * (nv tn tv (i + 3)))))), (1, .int (nI (164 + (24 * (tldV tn tv nl (i + 1)))))), (0, .ref 36)]) dX12_readPad_85 (by decide) rfl ?_
          refine x_aload_n dX12_readPad_86 2 rfl ?_
          refine x_get (v := .ref 38) dX12_readPad_87 fX12_13 w36 (by decide) rfl ?_
          refine x_bipush (v := 20) dX12_readPad_90 (by decide) ?_
          refine x_callS (rf' := 0) (rl' := 0) [.int 20] [.ref 38] dX12_readPad_92 vX12_154 Y_X12_at rfl rfl (Nat.le_of_ble_eq_true rfl) (Nat.le_of_ble_eq_true rfl) (by decide) (by decide) (c_at (b := 20)) (fun _ _ e154 => ?_)
          cases e154
          refine x_iload_n dX12_readPad_95 0 rfl ?_
          refine x_iaddN (a := (484 * 20)) (b := (((164 + (24 * (tldV tn tv nl (i + 1)))) + 5) + (3 * (nv tn tv (i + 3))))) dX12_readPad_96 ?_
          refine x_ialdN (i := ((484 * 20) + (((164 + (24 * (tldV tn tv nl (i + 1)))) + 5) + (3 * (nv tn tv (i + 3)))))) dX12_readPad_97 f143 (by decide) (by omega) (by decide) ?_
          rw [show (bk (((484 * 20) + (((164 + (24 * (tldV tn tv nl (i + 1)))) + 5) + (3 * (nv tn tv (i + 3))))))) = R (padP tn tv nl i) from hR _ (by omega)]
          refine x_if_le (tgt := 107) dX12_readPad_98 (by decide) (fun c_98 => ?_) (fun c_98 => ?_)
          · refine x_aload_n dX12_readPad_107 2 rfl ?_
            refine x_callV (rf' := 1) (rl' := 21) [] [] dX12_readPad_108 vX12_148 Y_X12_go w36 (by decide) rfl rfl (Nat.le_of_ble_eq_true rfl) (Nat.le_of_ble_eq_true rfl) (by decide) (by decide) (c_goN htn hv hmt tw w36 f142 (by omega)) (fun r h155 e156 => ?_)
            obtain ⟨e0, m158, sm157⟩ := e156
            cases e0
            have sm157 : Sm [36] h136 h155 := sm157
            have f159 := sm157.at f142 (by decide)
            have f160 := sm157.at f143 (by decide)
            have f161 := sm157.at f144 (by decide)
            have sm162 := sm145.tr (sm157.wide (by decide))
            obtain ⟨m163, m164, m165, m166, m167, m168, f169, tk170⟩ := m158
            have f169 : h155[36]? = some (cO 12 (MO ((x 0)) ((x 1)) ((x 2)) ((x 3)) ((nI tn)) m163 m164 m165 m166 m167 flt plc m168 ((nI (tldV tn tv nl (i + 1)))) ((x 4)) ((x 5)) ((x 6)) ((x 7)) ((x 8)) ((x 9)) ((x 10)) ((x 11)))) := f169
            have tk170 : TkM tn tv (i + 4) m163 m164 m165 m166 m167 m168 := tk170
            refine x_aload_n dX12_readPad_111 2 rfl ?_
            refine x_iconst (v := 0) dX12_readPad_112 (by decide) ?_
            refine x_callV (rf' := 3) (rl' := 66) [.int 0] [] dX12_readPad_113 vX12_183 Y_X12_readTold f169 (by decide) rfl rfl (Nat.le_of_ble_eq_true rfl) (Nat.le_of_ble_eq_true rfl) (by decide) (by decide) (c_readToldM (k := 0) htn hv hmt tk170 f169 f159 f160 f161 hRs hnp w8 (by decide)) (fun r h171 e172 => ?_)
            obtain ⟨sm175, e172⟩ := e172
            have sm175 : Sm [36] h155 h171 := sm175
            have f177 := sm175.at f159 (by decide)
            have f178 := sm175.at f160 (by decide)
            have f179 := sm175.at f161 (by decide)
            have sm180 := sm162.tr (sm175.wide (by decide))
            cases q173 : tldF tn tv nl 0 (i + 4) with
            | none =>
              rw [q173] at e172
              obtain ⟨e0, m176⟩ := e172
              cases e0
              obtain ⟨m181, m182, m183, m184, m185, m186, f187, tk188⟩ := m176
              have f187 : h171[36]? = some (cO 12 (MO ((x 0)) ((x 1)) ((x 2)) ((x 3)) ((nI tn)) m181 m182 m183 m184 m185 flt plc m186 ((nI (tldV tn tv nl (i + 4)))) ((x 4)) ((x 5)) ((x 6)) ((x 7)) ((x 8)) ((x 9)) ((x 10)) ((x 11)))) := f187
              have tk188 : TkM tn tv (i + 5) m181 m182 m183 m184 m185 m186 := tk188
              have kkq173 := tldE q173
              refine x_if_ne (tgt := 121) dX12_readPad_116 (by decide) (fun c_116 => ?_) (fun c_116 => absurd c_116 (by decide))
              have hkf := (tld_in hnl q173).1 rfl
              refine x_aload_n dX12_readPad_121 2 rfl ?_
              refine x_get (v := .ref 38) dX12_readPad_122 fX12_13 f187 (by decide) rfl ?_
              refine x_bipush (v := 20) dX12_readPad_125 (by decide) ?_
              refine x_callS (rf' := 0) (rl' := 0) [.int 20] [.ref 38] dX12_readPad_127 vX12_154 Y_X12_at rfl rfl (Nat.le_of_ble_eq_true rfl) (Nat.le_of_ble_eq_true rfl) (by decide) (by decide) (c_at (b := 20)) (fun _ _ e189 => ?_)
              cases e189
              refine x_iload_n dX12_readPad_130 0 rfl ?_
              refine x_iaddN (a := (484 * 20)) (b := (((164 + (24 * (tldV tn tv nl (i + 1)))) + 5) + (3 * (nv tn tv (i + 3))))) dX12_readPad_131 ?_
              refine x_aload_n dX12_readPad_132 2 rfl ?_
              refine x_get (v := .int (nI (tldV tn tv nl (i + 4)))) dX12_readPad_133 fX12_151 f187 (by decide) rfl ?_
              refine x_iconst (v := 1) dX12_readPad_136 (by decide) ?_
              refine x_iaddN (a := (tldV tn tv nl (i + 4))) (b := 1) dX12_readPad_137 ?_
              refine x_iastN (i := ((484 * 20) + (((164 + (24 * (tldV tn tv nl (i + 1)))) + 5) + (3 * (nv tn tv (i + 3)))))) dX12_readPad_138 f178 (by decide) (by omega) (by decide) (fun h190 a191 e192 l193 s194 => ?_)
              have f195 := (e192 36 (by decide)).trans f187
              have f196 := (e192 37 (by decide)).trans f177
              have f197 := (e192 40 (by decide)).trans f179
              have sm198 := Sm.put sm180 e192 l193 s194 (by decide)
              refine x_aload_n dX12_readPad_139 2 rfl ?_
              refine x_bipush (v := 116) dX12_readPad_140 (by decide) ?_
              refine x_bipush (v := 104) dX12_readPad_142 (by decide) ?_
              refine x_bipush (v := 105) dX12_readPad_144 (by decide) ?_
              refine x_bipush (v := 99) dX12_readPad_146 (by decide) ?_
              refine x_bipush (v := 107) dX12_readPad_148 (by decide) ?_
              refine x_callS (rf' := 0) (rl' := 0) [.int 116, .int 104, .int 105, .int 99, .int 107] [.ref 36] dX12_readPad_150 vX12_109 Y_X12_spelt rfl rfl (Nat.le_of_ble_eq_true rfl) (Nat.le_of_ble_eq_true rfl) (by decide) (by decide) c_spelt13 (fun _ _ e199 => ?_)
              cases e199
              refine x_callV (rf' := 2) (rl' := 45) [.long (lN (k27 13))] [] dX12_readPad_153 vX12_180 Y_X12_readKey f195 (by decide) rfl rfl (Nat.le_of_ble_eq_true rfl) (Nat.le_of_ble_eq_true rfl) (by decide) (by decide) (c_readKey (n := 13) (by decide) htn hv hmt tk188 f195 f196) (fun r h200 e201 => ?_)
              obtain ⟨sm204, e201⟩ := e201
              have sm204 : Sm [36] h190 h200 := sm204
              have f206 := sm204.at f196 (by decide)
              have f207 := sm204.at a191 (by decide)
              have f208 := sm204.at f197 (by decide)
              have sm209 := sm198.tr (sm204.wide (by decide))
              cases q202 : tokF tn tv 13 (i + 5) with
              | none =>
                rw [q202] at e201
                obtain ⟨e0, m205⟩ := e201
                cases e0
                obtain ⟨m210, m211, m212, m213, m214, m215, f216, tk217⟩ := m205
                have f216 : h200[36]? = some (cO 12 (MO ((x 0)) ((x 1)) ((x 2)) ((x 3)) ((nI tn)) m210 m211 m212 m213 m214 flt plc m215 ((nI (tldV tn tv nl (i + 4)))) ((x 4)) ((x 5)) ((x 6)) ((x 7)) ((x 8)) ((x 9)) ((x 10)) ((x 11)))) := f216
                have tk217 : TkM tn tv (i + 6) m210 m211 m212 m213 m214 m215 := tk217
                have kkq202 := tokE q202
                refine x_if_eq (tgt := 174) dX12_readPad_156 (by decide) (fun c_156 => absurd c_156 (by decide)) (fun c_156 => ?_)
                refine x_aload_n dX12_readPad_159 2 rfl ?_
                refine x_iload_n dX12_readPad_160 0 rfl ?_
                refine x_iconst (v := 1) dX12_readPad_161 (by decide) ?_
                refine x_iaddN (a := (((164 + (24 * (tldV tn tv nl (i + 1)))) + 5) + (3 * (nv tn tv (i + 3))))) (b := 1) dX12_readPad_162 ?_
                refine x_bipush (v := 10) dX12_readPad_163 (by decide) ?_
                refine x_sipush (v := 600) dX12_readPad_165 (by decide) ?_
                refine x_callV (rf' := 3) (rl' := 67) [.int (nI ((((164 + (24 * (tldV tn tv nl (i + 1)))) + 5) + (3 * (nv tn tv (i + 3)))) + 1)), .int 10, .int 600] [] dX12_readPad_168 vX12_167 Y_X12_readInto f216 (by decide) rfl rfl (Nat.le_of_ble_eq_true rfl) (Nat.le_of_ble_eq_true rfl) (by decide) (by decide) (c_readInto (p := ((((164 + (24 * (tldV tn tv nl (i + 1)))) + 5) + (3 * (nv tn tv (i + 3)))) + 1)) (a := 10) (b := 600) htn hv hmt tk217 f216 f206 f207 (by omega)) (fun r h218 e219 => ?_)
                obtain ⟨sm222, e219⟩ := e219
                have sm222 : Sm [36, 38] h200 h218 := sm222
                have f224 := sm222.at f206 (by decide)
                have f225 := sm222.at f208 (by decide)
                have sm226 := sm209.tr (sm222.wide (by decide))
                cases q220 : numF tn tv 10 600 (i + 6) with
                | none =>
                  rw [q220] at e219
                  obtain ⟨e0, m223, x227⟩ := e219
                  cases e0
                  obtain ⟨m228, m229, m230, m231, m232, m233, f234, tk235⟩ := m223
                  have f234 : h218[36]? = some (cO 12 (MO ((x 0)) ((x 1)) ((x 2)) ((x 3)) ((nI tn)) m228 m229 m230 m231 m232 flt plc m233 ((nI (nv tn tv (i + 6)))) ((x 4)) ((x 5)) ((x 6)) ((x 7)) ((x 8)) ((x 9)) ((x 10)) ((x 11)))) := f234
                  have tk235 : TkM tn tv (i + 7) m228 m229 m230 m231 m232 m233 := tk235
                  have x227 : h218[38]? = some (cI 10164 ((upd ((upd bk (((484 * 20) + (((164 + (24 * (tldV tn tv nl (i + 1)))) + 5) + (3 * (nv tn tv (i + 3)))))) ((nI ((tldV tn tv nl (i + 4)) + 1))))) (484 * 20 + (((((164 + (24 * (tldV tn tv nl (i + 1)))) + 5) + (3 * (nv tn tv (i + 3)))) + 1))) (nI (nv tn tv (i + 6)))))) := x227
                  have kkq220 := numE q220
                  refine x_if_ne (tgt := 176) dX12_readPad_171 (by decide) (fun c_171 => ?_) (fun c_171 => absurd c_171 (by decide))
                  refine x_aload_n dX12_readPad_176 2 rfl ?_
                  refine x_bipush (v := 97) dX12_readPad_177 (by decide) ?_
                  refine x_bipush (v := 114) dX12_readPad_179 (by decide) ?_
                  refine x_bipush (v := 101) dX12_readPad_181 (by decide) ?_
                  refine x_bipush (v := 97) dX12_readPad_183 (by decide) ?_
                  refine x_iconst (v := 0) dX12_readPad_185 (by decide) ?_
                  refine x_callS (rf' := 0) (rl' := 0) [.int 97, .int 114, .int 101, .int 97, .int 0] [.ref 36] dX12_readPad_186 vX12_109 Y_X12_spelt rfl rfl (Nat.le_of_ble_eq_true rfl) (Nat.le_of_ble_eq_true rfl) (by decide) (by decide) c_spelt14 (fun _ _ e236 => ?_)
                  cases e236
                  refine x_callV (rf' := 2) (rl' := 45) [.long (lN (k27 14))] [] dX12_readPad_189 vX12_180 Y_X12_readKey f234 (by decide) rfl rfl (Nat.le_of_ble_eq_true rfl) (Nat.le_of_ble_eq_true rfl) (by decide) (by decide) (c_readKey (n := 14) (by decide) htn hv hmt tk235 f234 f224) (fun r h237 e238 => ?_)
                  obtain ⟨sm241, e238⟩ := e238
                  have sm241 : Sm [36] h218 h237 := sm241
                  have f243 := sm241.at f224 (by decide)
                  have f244 := sm241.at x227 (by decide)
                  have f245 := sm241.at f225 (by decide)
                  have sm246 := sm226.tr (sm241.wide (by decide))
                  cases q239 : tokF tn tv 14 (i + 7) with
                  | none =>
                    rw [q239] at e238
                    obtain ⟨e0, m242⟩ := e238
                    cases e0
                    obtain ⟨m247, m248, m249, m250, m251, m252, f253, tk254⟩ := m242
                    have f253 : h237[36]? = some (cO 12 (MO ((x 0)) ((x 1)) ((x 2)) ((x 3)) ((nI tn)) m247 m248 m249 m250 m251 flt plc m252 ((nI (nv tn tv (i + 6)))) ((x 4)) ((x 5)) ((x 6)) ((x 7)) ((x 8)) ((x 9)) ((x 10)) ((x 11)))) := f253
                    have tk254 : TkM tn tv (i + 8) m247 m248 m249 m250 m251 m252 := tk254
                    have kkq239 := tokE q239
                    refine x_if_eq (tgt := 213) dX12_readPad_192 (by decide) (fun c_192 => absurd c_192 (by decide)) (fun c_192 => ?_)
                    refine x_aload_n dX12_readPad_195 2 rfl ?_
                    refine x_iload_n dX12_readPad_196 0 rfl ?_
                    refine x_iconst (v := 2) dX12_readPad_197 (by decide) ?_
                    refine x_iaddN (a := (((164 + (24 * (tldV tn tv nl (i + 1)))) + 5) + (3 * (nv tn tv (i + 3))))) (b := 2) dX12_readPad_198 ?_
                    refine x_iconst (v := 1) dX12_readPad_199 (by decide) ?_
                    refine x_sipush (v := 2000) dX12_readPad_200 (by decide) ?_
                    refine x_callV (rf' := 3) (rl' := 67) [.int (nI ((((164 + (24 * (tldV tn tv nl (i + 1)))) + 5) + (3 * (nv tn tv (i + 3)))) + 2)), .int 1, .int 2000] [] dX12_readPad_203 vX12_167 Y_X12_readInto f253 (by decide) rfl rfl (Nat.le_of_ble_eq_true rfl) (Nat.le_of_ble_eq_true rfl) (by decide) (by decide) (c_readInto (p := ((((164 + (24 * (tldV tn tv nl (i + 1)))) + 5) + (3 * (nv tn tv (i + 3)))) + 2)) (a := 1) (b := 2000) htn hv hmt tk254 f253 f243 f244 (by omega)) (fun r h255 e256 => ?_)
                    obtain ⟨sm259, e256⟩ := e256
                    have sm259 : Sm [36, 38] h237 h255 := sm259
                    have f261 := sm259.at f243 (by decide)
                    have f262 := sm259.at f245 (by decide)
                    have sm263 := sm246.tr (sm259.wide (by decide))
                    cases q257 : numF tn tv 1 2000 (i + 8) with
                    | none =>
                      rw [q257] at e256
                      obtain ⟨e0, m260, x264⟩ := e256
                      cases e0
                      obtain ⟨m265, m266, m267, m268, m269, m270, f271, tk272⟩ := m260
                      have f271 : h255[36]? = some (cO 12 (MO ((x 0)) ((x 1)) ((x 2)) ((x 3)) ((nI tn)) m265 m266 m267 m268 m269 flt plc m270 ((nI (nv tn tv (i + 8)))) ((x 4)) ((x 5)) ((x 6)) ((x 7)) ((x 8)) ((x 9)) ((x 10)) ((x 11)))) := f271
                      have tk272 : TkM tn tv (i + 9) m265 m266 m267 m268 m269 m270 := tk272
                      have x264 : h255[38]? = some (cI 10164 ((upd ((upd ((upd bk (((484 * 20) + (((164 + (24 * (tldV tn tv nl (i + 1)))) + 5) + (3 * (nv tn tv (i + 3)))))) ((nI ((tldV tn tv nl (i + 4)) + 1))))) (484 * 20 + (((((164 + (24 * (tldV tn tv nl (i + 1)))) + 5) + (3 * (nv tn tv (i + 3)))) + 1))) (nI (nv tn tv (i + 6))))) (484 * 20 + (((((164 + (24 * (tldV tn tv nl (i + 1)))) + 5) + (3 * (nv tn tv (i + 3)))) + 2))) (nI (nv tn tv (i + 8)))))) := x264
                      have kkq257 := numE q257
                      refine x_if_eq (tgt := 213) dX12_readPad_206 (by decide) (fun c_206 => absurd c_206 (by decide)) (fun c_206 => ?_)
                      refine x_iconst (v := 1) dX12_readPad_209 (by decide) ?_
                      refine x_goto (tgt := 214) dX12_readPad_210 (by decide) ?_
                      exact x_zret dX12_readPad_214 rfl rfl ⟨sm263, by rw [show padF tn tv nl i R = none by unfold padF numOfF; rw [q119, q138, show numF tn tv 0 5 (i + 2 + 1) = none from (if_pos k18).trans (if_neg (fun z => z.elim (nI_pos (show nv tn tv (i + 3) < 2 ^ 31 by omega)) (fun z => absurd c_66 (Int32.not_le.mpr z)))), if_neg (Int32.not_lt.mpr c_98), q173, q202, q220, q239, q257]; rfl]; exact ⟨rfl, ⟨_, ⟨_, _, _, _, _, _, f271, tk272⟩⟩, ⟨_, x264, fun j hj => by rw [pk_un (by omega)]; rw [pk_un (by omega)]; rw [pk_un (by omega)], pad_cong hR⟩, ⟨_, f262, hnp⟩⟩⟩
                    | some fl258 =>
                      rw [q257] at e256
                      obtain ⟨e0, m260, sx273⟩ := e256
                      cases e0
                      have sx273 : Sm [36] h237 h255 := sx273
                      have f274 := sx273.at f244 (by decide)
                      have f275 := sx273.at f245 (by decide)
                      refine x_if_eq (tgt := 213) dX12_readPad_206 (by decide) (fun c_206 => ?_) (fun c_206 => absurd (by decide) c_206)
                      refine x_iconst (v := 0) dX12_readPad_213 (by decide) ?_
                      exact x_zret dX12_readPad_214 rfl rfl ⟨sm263, by rw [show padF tn tv nl i R = some fl258 by unfold padF numOfF; rw [q119, q138, show numF tn tv 0 5 (i + 2 + 1) = none from (if_pos k18).trans (if_neg (fun z => z.elim (nI_pos (show nv tn tv (i + 3) < 2 ^ 31 by omega)) (fun z => absurd c_66 (Int32.not_le.mpr z)))), if_neg (Int32.not_lt.mpr c_98), q173, q202, q220, q239, q257]; rfl]; exact ⟨rfl, m260, ⟨_, f274, fun j hj => by rw [pk_un (by omega)]; rw [pk_un (by omega)]⟩, ⟨_, f275⟩⟩⟩
                  | some fl240 =>
                    rw [q239] at e238
                    obtain ⟨e0, m242⟩ := e238
                    cases e0
                    refine x_if_eq (tgt := 213) dX12_readPad_192 (by decide) (fun c_192 => ?_) (fun c_192 => absurd (by decide) c_192)
                    refine x_iconst (v := 0) dX12_readPad_213 (by decide) ?_
                    exact x_zret dX12_readPad_214 rfl rfl ⟨sm246, by rw [show padF tn tv nl i R = some fl240 by unfold padF numOfF; rw [q119, q138, show numF tn tv 0 5 (i + 2 + 1) = none from (if_pos k18).trans (if_neg (fun z => z.elim (nI_pos (show nv tn tv (i + 3) < 2 ^ 31 by omega)) (fun z => absurd c_66 (Int32.not_le.mpr z)))), if_neg (Int32.not_lt.mpr c_98), q173, q202, q220, q239]; rfl]; exact ⟨rfl, m242, ⟨_, f244, fun j hj => by rw [pk_un (by omega)]; rw [pk_un (by omega)]⟩, ⟨_, f245⟩⟩⟩
                | some fl221 =>
                  rw [q220] at e219
                  obtain ⟨e0, m223, sx277⟩ := e219
                  cases e0
                  have sx277 : Sm [36] h200 h218 := sx277
                  have f278 := sx277.at f207 (by decide)
                  have f279 := sx277.at f208 (by decide)
                  refine x_if_ne (tgt := 176) dX12_readPad_171 (by decide) (fun c_171 => absurd (by decide) c_171) (fun c_171 => ?_)
                  refine x_iconst (v := 0) dX12_readPad_174 (by decide) ?_
                  exact x_zret dX12_readPad_175 rfl rfl ⟨sm226, by rw [show padF tn tv nl i R = some fl221 by unfold padF numOfF; rw [q119, q138, show numF tn tv 0 5 (i + 2 + 1) = none from (if_pos k18).trans (if_neg (fun z => z.elim (nI_pos (show nv tn tv (i + 3) < 2 ^ 31 by omega)) (fun z => absurd c_66 (Int32.not_le.mpr z)))), if_neg (Int32.not_lt.mpr c_98), q173, q202, q220]; rfl]; exact ⟨rfl, m223, ⟨_, f278, fun j hj => by rw [pk_un (by omega)]⟩, ⟨_, f279⟩⟩⟩
              | some fl203 =>
                rw [q202] at e201
                obtain ⟨e0, m205⟩ := e201
                cases e0
                refine x_if_eq (tgt := 174) dX12_readPad_156 (by decide) (fun c_156 => ?_) (fun c_156 => absurd (by decide) c_156)
                refine x_iconst (v := 0) dX12_readPad_174 (by decide) ?_
                exact x_zret dX12_readPad_175 rfl rfl ⟨sm209, by rw [show padF tn tv nl i R = some fl203 by unfold padF numOfF; rw [q119, q138, show numF tn tv 0 5 (i + 2 + 1) = none from (if_pos k18).trans (if_neg (fun z => z.elim (nI_pos (show nv tn tv (i + 3) < 2 ^ 31 by omega)) (fun z => absurd c_66 (Int32.not_le.mpr z)))), if_neg (Int32.not_lt.mpr c_98), q173, q202]; rfl]; exact ⟨rfl, m205, ⟨_, f207, fun j hj => by rw [pk_un (by omega)]⟩, ⟨_, f208⟩⟩⟩
            | some fl174 =>
              rw [q173] at e172
              obtain ⟨e0, m176⟩ := e172
              cases e0
              refine x_if_ne (tgt := 121) dX12_readPad_116 (by decide) (fun c_116 => absurd (by decide) c_116) (fun c_116 => ?_)
              refine x_iconst (v := 0) dX12_readPad_119 (by decide) ?_
              exact x_zret dX12_readPad_120 rfl rfl ⟨sm180, by rw [show padF tn tv nl i R = some fl174 by unfold padF numOfF; rw [q119, q138, show numF tn tv 0 5 (i + 2 + 1) = none from (if_pos k18).trans (if_neg (fun z => z.elim (nI_pos (show nv tn tv (i + 3) < 2 ^ 31 by omega)) (fun z => absurd c_66 (Int32.not_le.mpr z)))), if_neg (Int32.not_lt.mpr c_98), q173]; rfl]; exact ⟨rfl, m176, ⟨_, f178, fun j hj => rfl⟩, ⟨_, f179⟩⟩⟩
          · refine x_aload_n dX12_readPad_101 2 rfl ?_
            refine x_iconst (v := 4) dX12_readPad_102 (by decide) ?_
            refine x_callV (rf' := 0) (rl' := 0) [.int 4] [] dX12_readPad_103 vX12_145 Y_X12_bad w36 (by decide) rfl rfl (Nat.le_of_ble_eq_true rfl) (Nat.le_of_ble_eq_true rfl) (by decide) (by decide) (c_bad (k := 4) htn hv hmt tw w36 f142 (fun z => by have := tw.k1 z; omega)) (fun r h282 e283 => ?_)
            obtain ⟨sm284, e0, m285⟩ := e283
            cases e0
            have sm284 : Sm [36] h136 h282 := sm284
            have f286 := sm284.at f142 (by decide)
            have f287 := sm284.at f143 (by decide)
            have f288 := sm284.at f144 (by decide)
            have sm289 := sm145.tr (sm284.wide (by decide))
            exact x_zret dX12_readPad_106 rfl rfl ⟨sm289, by rw [show padF tn tv nl i R = some (4, i + 3) by unfold padF numOfF; rw [q119, q138, show numF tn tv 0 5 (i + 2 + 1) = none from (if_pos k18).trans (if_neg (fun z => z.elim (nI_pos (show nv tn tv (i + 3) < 2 ^ 31 by omega)) (fun z => absurd c_66 (Int32.not_le.mpr z)))), if_pos (Int32.not_le.mp c_98)]; rfl]; exact ⟨rfl, m285, ⟨_, f287, fun j hj => rfl⟩, ⟨_, f288⟩⟩⟩
        · refine x_aload_n dX12_readPad_69 1 rfl ?_
          refine x_iconst (v := 2) dX12_readPad_70 (by decide) ?_
          refine x_callV (rf' := 0) (rl' := 0) [.int 2] [] dX12_readPad_71 vX12_145 Y_X12_bad w36 (by decide) rfl rfl (Nat.le_of_ble_eq_true rfl) (Nat.le_of_ble_eq_true rfl) (by decide) (by decide) (c_bad (k := 2) htn hv hmt tw w36 f142 (fun z => by have := tw.k1 z; omega)) (fun r h290 e291 => ?_)
          obtain ⟨sm292, e0, m293⟩ := e291
          cases e0
          have sm292 : Sm [36] h136 h290 := sm292
          have f294 := sm292.at f142 (by decide)
          have f295 := sm292.at f143 (by decide)
          have f296 := sm292.at f144 (by decide)
          have sm297 := sm145.tr (sm292.wide (by decide))
          exact x_zret dX12_readPad_74 rfl rfl ⟨sm297, by rw [show padF tn tv nl i R = some (2, i + 3) by unfold padF numOfF; rw [q119, q138, show numF tn tv 0 5 (i + 2 + 1) = some (2, i + 3) from (if_pos k18).trans (if_pos (Or.inr (Int32.not_le.mp c_66)))]; rfl]; exact ⟨rfl, m293, ⟨_, f295, fun j hj => rfl⟩, ⟨_, f296⟩⟩⟩
      · refine x_aload_n dX12_readPad_55 1 rfl ?_
        refine x_iconst (v := 1) dX12_readPad_56 (by decide) ?_
        refine x_callV (rf' := 0) (rl' := 0) [.int 1] [] dX12_readPad_57 vX12_145 Y_X12_bad f152 (by decide) rfl rfl (Nat.le_of_ble_eq_true rfl) (Nat.le_of_ble_eq_true rfl) (by decide) (by decide) (c_bad (k := 1) htn hv hmt tk153 f152 f142 (fun _ => rfl)) (fun r h298 e299 => ?_)
        obtain ⟨sm300, e0, m301⟩ := e299
        cases e0
        have sm300 : Sm [36] h136 h298 := sm300
        have f302 := sm300.at f142 (by decide)
        have f303 := sm300.at f143 (by decide)
        have f304 := sm300.at f144 (by decide)
        have sm305 := sm145.tr (sm300.wide (by decide))
        exact x_zret dX12_readPad_60 rfl rfl ⟨sm305, by rw [show padF tn tv nl i R = some (1, i + 3) by unfold padF numOfF; rw [q119, q138, show numF tn tv 0 5 (i + 2 + 1) = some (1, i + 3) from if_neg (fun z => c_52 (tk153.k3.mpr z))]; rfl]; exact ⟨rfl, m301, ⟨_, f303, fun j hj => rfl⟩, ⟨_, f304⟩⟩⟩
    | some fl139 =>
      rw [q138] at e137
      obtain ⟨e0, m141⟩ := e137
      cases e0
      refine x_if_ne (tgt := 47) dX12_readPad_42 (by decide) (fun c_42 => absurd (by decide) c_42) (fun c_42 => ?_)
      refine x_iconst (v := 0) dX12_readPad_45 (by decide) ?_
      exact x_zret dX12_readPad_46 rfl rfl ⟨sm145, by rw [show padF tn tv nl i R = some fl139 by unfold padF numOfF; rw [q119, q138]; rfl]; exact ⟨rfl, m141, ⟨_, f143, fun j hj => rfl⟩, ⟨_, f144⟩⟩⟩
  | some fl120 =>
    rw [q119] at e118
    obtain ⟨e0, m122⟩ := e118
    cases e0
    refine x_if_ne (tgt := 14) dX12_readPad_9 (by decide) (fun c_9 => absurd (by decide) c_9) (fun c_9 => ?_)
    refine x_iconst (v := 0) dX12_readPad_12 (by decide) ?_
    exact x_zret dX12_readPad_13 rfl rfl ⟨sm126, by rw [show padF tn tv nl i R = some fl120 by unfold padF numOfF; rw [q119]; rfl]; exact ⟨rfl, m122, ⟨_, f124, fun j hj => rfl⟩, ⟨_, f125⟩⟩⟩

set_option maxRecDepth 100000 in
set_option maxHeartbeats 4000000 in
theorem m_readPoint {G : GT} {h : List PE} {tn : Nat} {tv : Nat → Nat} {mtp : Nat → Int32} {flt plc tld too frm knd num sgn : Int32} {wrd : Int64} {x : Nat → Int32} {j k f : Nat} (htn : tn ≤ 640) (hv : ∀ j, j < tn → tv j < 256) (hmt : ∀ j, j < tn → mtp j = nI (tv j)) (tk : TkM tn tv (j + 3 * k) too frm knd num sgn wrd) {bk : Nat → Int32} (f36 : h[36]? = some (cO 12 (MO ((x 0)) ((x 1)) ((x 2)) ((x 3)) ((nI tn)) too frm knd num sgn flt plc wrd tld ((x 4)) ((x 5)) ((x 6)) ((x 7)) ((x 8)) ((x 9)) ((x 10)) ((x 11))))) (f37 : h[37]? = some (cI 640 mtp)) (f38 : h[38]? = some (cI 10164 bk)) (hk : k ≤ 8) (hf : f + 20 ≤ 484) (hk2 : k < 2 ∨ kd tn tv (j + 3 * k) = 18) (hg : ∀ m, m < k → bk (484 * 20 + (f + 3 + m)) = nI (nv tn tv (j + 3 * m)) ∧ bk (484 * 20 + (f + 11 + m)) = nI (nv tn tv (j + 3 * m + 2)))  : CT G mX12_readPoint 4 90 [.ref 36, .int (nI f), .int (nI k)] h (fun o => Sm [36, 38] h o.2 ∧ match ptF tn tv j k with | none => o.1 = some (.int 1) ∧ k < 8 ∧ (∃ tld : Int32, MRd o.2 tn tv (j + 3 * k + 3) x flt plc tld) ∧ o.2[38]? = some (cI 10164 ((upd (upd bk (484 * 20 + (f + 3 + k)) (nI (nv tn tv (j + 3 * k)))) (484 * 20 + (f + 11 + k)) (nI (nv tn tv ((j + 3 * k) + 2)))))) | some f => o.1 = some (.int 0) ∧ MBd o.2 tn tv x f ∧ RgB o.2 bk) := by
  have sm0 : Sm [36, 38] h h := Sm.rf
  show X (NF G) G mX12_readPoint 4 90 0 [(0, .ref 36), (1, .int (nI f)), (2, .int (nI k))] [] h _
  refine x_iload_n dX12_readPoint_0 2 rfl ?_
  refine x_if_neN (tgt := 8) (a := k) (by omega) dX12_readPoint_1 (by decide) (fun c_1 => ?_) (fun c_1 => ?_)
  · refine x_aload_n dX12_readPoint_8 0 rfl ?_
    refine x_get (v := .ref 38) dX12_readPoint_9 fX12_13 f36 (by decide) rfl ?_
    refine x_bipush (v := 20) dX12_readPoint_12 (by decide) ?_
    refine x_callS (rf' := 0) (rl' := 0) [.int 20] [.ref 38] dX12_readPoint_14 vX12_154 Y_X12_at rfl rfl (Nat.le_of_ble_eq_true rfl) (Nat.le_of_ble_eq_true rfl) (by decide) (by decide) (c_at (b := 20)) (fun _ _ e101 => ?_)
    cases e101
    refine x_iload_n dX12_readPoint_17 1 rfl ?_
    refine x_iaddN (a := (484 * 20)) (b := f) dX12_readPoint_18 ?_
    refine x_iconst (v := 2) dX12_readPoint_19 (by decide) ?_
    refine x_iaddN (a := ((484 * 20) + f)) (b := 2) dX12_readPoint_20 ?_
    refine x_iload_n dX12_readPoint_21 2 rfl ?_
    refine x_iaddN (a := (((484 * 20) + f) + 2)) (b := k) dX12_readPoint_22 ?_
    refine x_ialdN (i := ((((484 * 20) + f) + 2) + k)) dX12_readPoint_23 f38 (by decide) (by omega) (by decide) ?_
    refine x_iconst (v := 1) dX12_readPoint_24 (by decide) ?_
    refine x_iadd dX12_readPoint_25 ?_
    rw [show ((bk (((((484 * 20) + f) + 2) + k))) + 1) = ptL tn tv j k by unfold ptL; rw [if_neg (by omega), ← (hg (k - 1) (by omega)).1, show 484 * 20 + (f + 3 + (k - 1)) = 484 * 20 + f + 2 + k by omega]]
    refine x_istore_n (lv2 := [(3, .int (ptL tn tv j k)), (0, .ref 36), (1, .int (nI f)), (2, .int (nI k))]) dX12_readPoint_26 (by decide) rfl ?_
    refine x_iload_n dX12_readPoint_27 3 rfl ?_
    refine x_bipush (v := 8) dX12_readPoint_28 (by decide) ?_
    refine x_icmp_neN (tgt := 60) (a := k) (b := 8) (by omega) (by omega) dX12_readPoint_30 (by decide) (fun c_30 => ?_) (fun c_30 => ?_)
    · refine x_iload_n dX12_readPoint_60 3 rfl ?_
      refine x_bipush (v := 8) dX12_readPoint_61 (by decide) ?_
      refine x_icmp_neN (tgt := 74) (a := k) (b := 8) (by omega) (by omega) dX12_readPoint_63 (by decide) (fun c_63 => ?_) (fun c_63 => absurd c_63 (by omega))
      refine x_aload_n dX12_readPoint_74 1 rfl ?_
      refine x_iload_n dX12_readPoint_75 2 rfl ?_
      refine x_iconst (v := 3) dX12_readPoint_76 (by decide) ?_
      refine x_iaddN (a := f) (b := 3) dX12_readPoint_77 ?_
      refine x_iload_n dX12_readPoint_78 3 rfl ?_
      refine x_iaddN (a := (f + 3)) (b := k) dX12_readPoint_79 ?_
      refine x_iload_n dX12_readPoint_80 0 rfl ?_
      refine x_iload_n dX12_readPoint_81 3 rfl ?_
      refine x_if_neN (tgt := 89) (a := k) (by omega) dX12_readPoint_82 (by decide) (fun c_82 => ?_) (fun c_82 => absurd c_82 (by omega))
      refine x_bipush (v := 95) dX12_readPoint_89 (by decide) ?_
      refine x_callV (rf' := 3) (rl' := 67) [.int (nI ((f + 3) + k)), .int (ptL tn tv j k), .int 95] [] dX12_readPoint_91 vX12_167 Y_X12_readInto f36 (by decide) rfl rfl (Nat.le_of_ble_eq_true rfl) (Nat.le_of_ble_eq_true rfl) (by decide) (by decide) (c_readInto (p := ((f + 3) + k)) (a := (ptL tn tv j k)) (b := 95) htn hv hmt tk f36 f37 f38 (by omega)) (fun r h102 e103 => ?_)
      obtain ⟨sm106, e103⟩ := e103
      have sm106 : Sm [36, 38] h h102 := sm106
      have f108 := sm106.at f37 (by decide)
      have sm109 := sm0.tr (sm106.wide (by decide))
      cases q104 : numF tn tv ((ptL tn tv j k)) 95 (j + 3 * k) with
      | none =>
        rw [q104] at e103
        obtain ⟨e0, m107, x110⟩ := e103
        cases e0
        obtain ⟨m111, m112, m113, m114, m115, m116, f117, tk118⟩ := m107
        have f117 : h102[36]? = some (cO 12 (MO ((x 0)) ((x 1)) ((x 2)) ((x 3)) ((nI tn)) m111 m112 m113 m114 m115 flt plc m116 ((nI (nv tn tv (j + 3 * k)))) ((x 4)) ((x 5)) ((x 6)) ((x 7)) ((x 8)) ((x 9)) ((x 10)) ((x 11)))) := f117
        have tk118 : TkM tn tv ((j + 3 * k) + 1) m111 m112 m113 m114 m115 m116 := tk118
        have x110 : h102[38]? = some (cI 10164 ((upd bk (484 * 20 + (((f + 3) + k))) (nI (nv tn tv (j + 3 * k)))))) := x110
        have kkq104 := numE q104
        refine x_if_ne (tgt := 99) dX12_readPoint_94 (by decide) (fun c_94 => ?_) (fun c_94 => absurd c_94 (by decide))
        refine x_aload_n dX12_readPoint_99 1 rfl ?_
        refine x_bipush (v := 58) dX12_readPoint_100 (by decide) ?_
        refine x_callV (rf' := 0) (rl' := 0) [.int 58] [] dX12_readPoint_102 vX12_170 Y_X12_isSign f117 (by decide) rfl rfl (Nat.le_of_ble_eq_true rfl) (Nat.le_of_ble_eq_true rfl) (by decide) (by decide) (c_isSign20 htn hv hmt tk118 f117 f108) (fun _ _ e119 => ?_)
        cases e119
        by_cases k120 : kd tn tv ((j + 3 * k) + 1) = 20
        · rw [if_pos k120]
          refine x_if_ne (tgt := 114) dX12_readPoint_105 (by decide) (fun c_105 => ?_) (fun c_105 => absurd c_105 (by decide))
          refine x_aload_n dX12_readPoint_114 1 rfl ?_
          refine x_callV (rf' := 1) (rl' := 21) [] [] dX12_readPoint_115 vX12_148 Y_X12_go f117 (by decide) rfl rfl (Nat.le_of_ble_eq_true rfl) (Nat.le_of_ble_eq_true rfl) (by decide) (by decide) (c_goN htn hv hmt tk118 f117 f108 (by omega)) (fun r h121 e122 => ?_)
          obtain ⟨e0, m124, sm123⟩ := e122
          cases e0
          have sm123 : Sm [36] h102 h121 := sm123
          have f125 := sm123.at f108 (by decide)
          have f126 := sm123.at x110 (by decide)
          have sm127 := sm109.tr (sm123.wide (by decide))
          obtain ⟨m128, m129, m130, m131, m132, m133, f134, tk135⟩ := m124
          have f134 : h121[36]? = some (cO 12 (MO ((x 0)) ((x 1)) ((x 2)) ((x 3)) ((nI tn)) m128 m129 m130 m131 m132 flt plc m133 ((nI (nv tn tv (j + 3 * k)))) ((x 4)) ((x 5)) ((x 6)) ((x 7)) ((x 8)) ((x 9)) ((x 10)) ((x 11)))) := f134
          have tk135 : TkM tn tv ((j + 3 * k) + 2) m128 m129 m130 m131 m132 m133 := tk135
          refine x_aload_n dX12_readPoint_118 1 rfl ?_
          refine x_iload_n dX12_readPoint_119 2 rfl ?_
          refine x_bipush (v := 11) dX12_readPoint_120 (by decide) ?_
          refine x_iaddN (a := f) (b := 11) dX12_readPoint_122 ?_
          refine x_iload_n dX12_readPoint_123 3 rfl ?_
          refine x_iaddN (a := (f + 11)) (b := k) dX12_readPoint_124 ?_
          refine x_iload_n dX12_readPoint_125 3 rfl ?_
          refine x_if_neN (tgt := 133) (a := k) (by omega) dX12_readPoint_126 (by decide) (fun c_126 => ?_) (fun c_126 => absurd c_126 (by omega))
          refine x_aload_n dX12_readPoint_133 1 rfl ?_
          refine x_get (v := .ref 38) dX12_readPoint_134 fX12_13 f134 (by decide) rfl ?_
          refine x_bipush (v := 20) dX12_readPoint_137 (by decide) ?_
          refine x_callS (rf' := 0) (rl' := 0) [.int 20] [.ref 38, .int (nI ((f + 11) + k)), .ref 36] dX12_readPoint_139 vX12_154 Y_X12_at rfl rfl (Nat.le_of_ble_eq_true rfl) (Nat.le_of_ble_eq_true rfl) (by decide) (by decide) (c_at (b := 20)) (fun _ _ e136 => ?_)
          cases e136
          refine x_iload_n dX12_readPoint_142 2 rfl ?_
          refine x_iaddN (a := (484 * 20)) (b := f) dX12_readPoint_143 ?_
          refine x_bipush (v := 10) dX12_readPoint_144 (by decide) ?_
          refine x_iaddN (a := ((484 * 20) + f)) (b := 10) dX12_readPoint_146 ?_
          refine x_iload_n dX12_readPoint_147 3 rfl ?_
          refine x_iaddN (a := (((484 * 20) + f) + 10)) (b := k) dX12_readPoint_148 ?_
          refine x_ialdN (i := ((((484 * 20) + f) + 10) + k)) dX12_readPoint_149 f126 (by decide) (by omega) (by decide) ?_
          rw [show (((upd bk (484 * 20 + (((f + 3) + k))) (nI (nv tn tv (j + 3 * k))))) (((((484 * 20) + f) + 10) + k))) = ptU tn tv j k by unfold ptU; rw [if_neg (by omega), ← (hg (k - 1) (by omega)).2, pk_un (by omega), show 484 * 20 + (f + 11 + (k - 1)) = 484 * 20 + f + 10 + k by omega]]
          refine x_ldc (v := 60000) dX12_readPoint_150 kX12_173 ?_
          refine x_callV (rf' := 3) (rl' := 67) [.int (nI ((f + 11) + k)), .int (ptU tn tv j k), .int 60000] [] dX12_readPoint_152 vX12_167 Y_X12_readInto f134 (by decide) rfl rfl (Nat.le_of_ble_eq_true rfl) (Nat.le_of_ble_eq_true rfl) (by decide) (by decide) (c_readInto (p := ((f + 11) + k)) (a := (ptU tn tv j k)) (b := 60000) htn hv hmt tk135 f134 f125 f126 (by omega)) (fun r h137 e138 => ?_)
          obtain ⟨sm141, e138⟩ := e138
          have sm141 : Sm [36, 38] h121 h137 := sm141
          have f143 := sm141.at f125 (by decide)
          have sm144 := sm127.tr (sm141.wide (by decide))
          cases q139 : numF tn tv ((ptU tn tv j k)) 60000 ((j + 3 * k) + 2) with
          | none =>
            rw [q139] at e138
            obtain ⟨e0, m142, x145⟩ := e138
            cases e0
            obtain ⟨m146, m147, m148, m149, m150, m151, f152, tk153⟩ := m142
            have f152 : h137[36]? = some (cO 12 (MO ((x 0)) ((x 1)) ((x 2)) ((x 3)) ((nI tn)) m146 m147 m148 m149 m150 flt plc m151 ((nI (nv tn tv ((j + 3 * k) + 2)))) ((x 4)) ((x 5)) ((x 6)) ((x 7)) ((x 8)) ((x 9)) ((x 10)) ((x 11)))) := f152
            have tk153 : TkM tn tv ((j + 3 * k) + 3) m146 m147 m148 m149 m150 m151 := tk153
            have x145 : h137[38]? = some (cI 10164 ((upd ((upd bk (484 * 20 + (((f + 3) + k))) (nI (nv tn tv (j + 3 * k))))) (484 * 20 + (((f + 11) + k))) (nI (nv tn tv ((j + 3 * k) + 2)))))) := x145
            have kkq139 := numE q139
            exact x_zret dX12_readPoint_155 rfl rfl ⟨sm144, by rw [show ptF tn tv j k = none by unfold ptF; rw [if_neg (show ¬ k = 0 by omega), q104, if_neg (by omega), show tokF tn tv 20 (j + 3 * k + 1) = none from if_pos k120, q139]; rfl]; exact ⟨rfl, by omega, ⟨_, ⟨_, _, _, _, _, _, f152, tk153⟩⟩, x145⟩⟩
          | some fl140 =>
            rw [q139] at e138
            obtain ⟨e0, m142, sx154⟩ := e138
            cases e0
            have sx154 : Sm [36] h121 h137 := sx154
            have f155 := sx154.at f126 (by decide)
            exact x_zret dX12_readPoint_155 rfl rfl ⟨sm144, by rw [show ptF tn tv j k = some fl140 by unfold ptF; rw [if_neg (show ¬ k = 0 by omega), q104, if_neg (by omega), show tokF tn tv 20 (j + 3 * k + 1) = none from if_pos k120, q139]; rfl]; exact ⟨rfl, m142, ⟨_, f155, fun j hj => by rw [pk_un (by omega)]⟩⟩⟩
        · rw [if_neg k120]
          refine x_if_ne (tgt := 114) dX12_readPoint_105 (by decide) (fun c_105 => absurd (by decide) c_105) (fun c_105 => ?_)
          refine x_aload_n dX12_readPoint_108 1 rfl ?_
          refine x_iconst (v := 1) dX12_readPoint_109 (by decide) ?_
          refine x_callV (rf' := 0) (rl' := 0) [.int 1] [] dX12_readPoint_110 vX12_145 Y_X12_bad f117 (by decide) rfl rfl (Nat.le_of_ble_eq_true rfl) (Nat.le_of_ble_eq_true rfl) (by decide) (by decide) (c_bad (k := 1) htn hv hmt tk118 f117 f108 (fun _ => rfl)) (fun r h156 e157 => ?_)
          obtain ⟨sm158, e0, m159⟩ := e157
          cases e0
          have sm158 : Sm [36] h102 h156 := sm158
          have f160 := sm158.at f108 (by decide)
          have f161 := sm158.at x110 (by decide)
          have sm162 := sm109.tr (sm158.wide (by decide))
          exact x_zret dX12_readPoint_113 rfl rfl ⟨sm162, by rw [show ptF tn tv j k = some (1, j + 3 * k + 1) by unfold ptF; rw [if_neg (show ¬ k = 0 by omega), q104, if_neg (by omega), show tokF tn tv 20 (j + 3 * k + 1) = some (1, j + 3 * k + 1) from if_neg k120]; rfl]; exact ⟨rfl, m159, ⟨_, f161, fun j hj => by rw [pk_un (by omega)]⟩⟩⟩
      | some fl105 =>
        rw [q104] at e103
        obtain ⟨e0, m107, sx163⟩ := e103
        cases e0
        have sx163 : Sm [36] h h102 := sx163
        have f164 := sx163.at f38 (by decide)
        refine x_if_ne (tgt := 99) dX12_readPoint_94 (by decide) (fun c_94 => absurd (by decide) c_94) (fun c_94 => ?_)
        refine x_iconst (v := 0) dX12_readPoint_97 (by decide) ?_
        exact x_zret dX12_readPoint_98 rfl rfl ⟨sm109, by rw [show ptF tn tv j k = some fl105 by unfold ptF; rw [if_neg (show ¬ k = 0 by omega), q104]; rfl]; exact ⟨rfl, m107, ⟨_, f164, fun j hj => rfl⟩⟩⟩
    · refine x_aload_n dX12_readPoint_33 1 rfl ?_
      refine x_get (v := .int knd) dX12_readPoint_34 fX12_81 f36 (by decide) rfl ?_
      refine x_iconst (v := 3) dX12_readPoint_37 (by decide) ?_
      refine x_icmp_ne (tgt := 60) dX12_readPoint_38 (by decide) (fun c_38 => ?_) (fun c_38 => ?_)
      · refine x_iload_n dX12_readPoint_60 3 rfl ?_
        refine x_bipush (v := 8) dX12_readPoint_61 (by decide) ?_
        refine x_icmp_neN (tgt := 74) (a := k) (b := 8) (by omega) (by omega) dX12_readPoint_63 (by decide) (fun c_63 => absurd (by omega) c_63) (fun c_63 => ?_)
        refine x_aload_n dX12_readPoint_66 1 rfl ?_
        refine x_iload_n dX12_readPoint_67 0 rfl ?_
        refine x_bipush (v := 95) dX12_readPoint_68 (by decide) ?_
        refine x_callV (rf' := 2) (rl' := 45) [.int (ptL tn tv j k), .int 95] [] dX12_readPoint_70 vX12_163 Y_X12_readNumber f36 (by decide) rfl rfl (Nat.le_of_ble_eq_true rfl) (Nat.le_of_ble_eq_true rfl) (by decide) (by decide) (c_readNumberM (a := (ptL tn tv j k)) (b := 95) htn hv hmt tk f36 f37) (fun r h165 e166 => ?_)
        obtain ⟨sm169, e166⟩ := e166
        have sm169 : Sm [36] h h165 := sm169
        have f171 := sm169.at f37 (by decide)
        have f172 := sm169.at f38 (by decide)
        have sm173 := sm0.tr (sm169.wide (by decide))
        cases q167 : numF tn tv ((ptL tn tv j k)) 95 (j + 3 * k) with
        | none =>
          rw [q167] at e166
          obtain ⟨e0, m170⟩ := e166
          cases e0
          obtain ⟨m174, m175, m176, m177, m178, m179, f180, tk181⟩ := m170
          have f180 : h165[36]? = some (cO 12 (MO ((x 0)) ((x 1)) ((x 2)) ((x 3)) ((nI tn)) m174 m175 m176 m177 m178 flt plc m179 ((nI (nv tn tv (j + 3 * k)))) ((x 4)) ((x 5)) ((x 6)) ((x 7)) ((x 8)) ((x 9)) ((x 10)) ((x 11)))) := f180
          have tk181 : TkM tn tv ((j + 3 * k) + 1) m174 m175 m176 m177 m178 m179 := tk181
          have kkq167 := numE q167
          exact x_zret dX12_readPoint_73 rfl rfl (absurd (tk.k3.mpr (hk2.elim (fun z => by omega) (fun z => z))) c_38)
        | some fl168 =>
          rw [q167] at e166
          obtain ⟨e0, m170⟩ := e166
          cases e0
          exact x_zret dX12_readPoint_73 rfl rfl (absurd (tk.k3.mpr (hk2.elim (fun z => by omega) (fun z => z))) c_38)
      · refine x_aload_n dX12_readPoint_41 1 rfl ?_
        refine x_get (v := .int num) dX12_readPoint_42 fX12_98 f36 (by decide) rfl ?_
        refine x_iload_n dX12_readPoint_45 0 rfl ?_
        refine x_bipush (v := 95) dX12_readPoint_46 (by decide) ?_
        have k18 := tk.k3.mp c_38
        have en := (tk.2.2.2.2.1 k18).2
        refine x_callS (rf' := 0) (rl' := 0) [.int num, .int (ptL tn tv j k), .int 95] [] dX12_readPoint_48 vX12_65 Y_X12_isIn rfl rfl (Nat.le_of_ble_eq_true rfl) (Nat.le_of_ble_eq_true rfl) (by decide) (by decide) c_isIn (fun _ _ e183 => ?_)
        cases e183
        by_cases hI : num < (ptL tn tv j k) ∨ 95 < num
        · rw [if_pos hI]
          refine x_if_eq (tgt := 60) dX12_readPoint_51 (by decide) (fun c_51 => ?_) (fun c_51 => absurd (by decide) c_51)
          refine x_iload_n dX12_readPoint_60 3 rfl ?_
          refine x_bipush (v := 8) dX12_readPoint_61 (by decide) ?_
          refine x_icmp_neN (tgt := 74) (a := k) (b := 8) (by omega) (by omega) dX12_readPoint_63 (by decide) (fun c_63 => absurd (by omega) c_63) (fun c_63 => ?_)
          refine x_aload_n dX12_readPoint_66 1 rfl ?_
          refine x_iload_n dX12_readPoint_67 0 rfl ?_
          refine x_bipush (v := 95) dX12_readPoint_68 (by decide) ?_
          refine x_callV (rf' := 2) (rl' := 45) [.int (ptL tn tv j k), .int 95] [] dX12_readPoint_70 vX12_163 Y_X12_readNumber f36 (by decide) rfl rfl (Nat.le_of_ble_eq_true rfl) (Nat.le_of_ble_eq_true rfl) (by decide) (by decide) (c_readNumberM (a := (ptL tn tv j k)) (b := 95) htn hv hmt tk f36 f37) (fun r h184 e185 => ?_)
          obtain ⟨sm188, e185⟩ := e185
          have sm188 : Sm [36] h h184 := sm188
          have f190 := sm188.at f37 (by decide)
          have f191 := sm188.at f38 (by decide)
          have sm192 := sm0.tr (sm188.wide (by decide))
          cases q186 : numF tn tv ((ptL tn tv j k)) 95 (j + 3 * k) with
          | none =>
            rw [q186] at e185
            obtain ⟨e0, m189⟩ := e185
            cases e0
            obtain ⟨m193, m194, m195, m196, m197, m198, f199, tk200⟩ := m189
            have f199 : h184[36]? = some (cO 12 (MO ((x 0)) ((x 1)) ((x 2)) ((x 3)) ((nI tn)) m193 m194 m195 m196 m197 flt plc m198 ((nI (nv tn tv (j + 3 * k)))) ((x 4)) ((x 5)) ((x 6)) ((x 7)) ((x 8)) ((x 9)) ((x 10)) ((x 11)))) := f199
            have tk200 : TkM tn tv ((j + 3 * k) + 1) m193 m194 m195 m196 m197 m198 := tk200
            have kkq186 := numE q186
            exact x_zret dX12_readPoint_73 rfl rfl (absurd q186 (by rw [show numF tn tv (ptL tn tv j k) 95 (j + 3 * k) = some (2, j + 3 * k) from (if_pos k18).trans (if_pos (by rw [← en]; exact hI))]; simp))
          | some fl187 =>
            rw [q186] at e185
            obtain ⟨e0, m189⟩ := e185
            cases e0
            exact x_zret dX12_readPoint_73 rfl rfl ⟨sm192, by rw [show ptF tn tv j k = some fl187 by unfold ptF; rw [if_neg (show ¬ k = 0 by omega), q186]; rfl]; exact ⟨rfl, m189, ⟨_, f191, fun j hj => rfl⟩⟩⟩
        · rw [if_neg hI]
          refine x_if_eq (tgt := 60) dX12_readPoint_51 (by decide) (fun c_51 => absurd c_51 (by decide)) (fun c_51 => ?_)
          refine x_aload_n dX12_readPoint_54 1 rfl ?_
          refine x_iconst (v := 4) dX12_readPoint_55 (by decide) ?_
          refine x_callV (rf' := 0) (rl' := 0) [.int 4] [] dX12_readPoint_56 vX12_145 Y_X12_bad f36 (by decide) rfl rfl (Nat.le_of_ble_eq_true rfl) (Nat.le_of_ble_eq_true rfl) (by decide) (by decide) (c_bad (k := 4) htn hv hmt tk f36 f37 (fun z => by have := tk.k1 z; omega)) (fun r h202 e203 => ?_)
          obtain ⟨sm204, e0, m205⟩ := e203
          cases e0
          have sm204 : Sm [36] h h202 := sm204
          have f206 := sm204.at f37 (by decide)
          have f207 := sm204.at f38 (by decide)
          have sm208 := sm0.tr (sm204.wide (by decide))
          exact x_zret dX12_readPoint_59 rfl rfl ⟨sm208, by rw [show ptF tn tv j k = some (4, j + 3 * k) by unfold ptF; rw [if_neg (show ¬ k = 0 by omega), show numF tn tv (ptL tn tv j k) 95 (j + 3 * k) = none from (if_pos k18).trans (if_neg (by rw [← en]; exact hI)), if_pos (by omega)]; rfl]; exact ⟨rfl, m205, ⟨_, f207, fun j hj => rfl⟩⟩⟩
  · refine x_iconst (v := 0) dX12_readPoint_4 (by decide) ?_
    refine x_goto (tgt := 26) dX12_readPoint_5 (by decide) ?_
    have eL0 : ptL tn tv j k = 0 := if_pos (by omega)
    have eU0 : ptU tn tv j k = 0 := if_pos (by omega)
    refine x_istore_n (lv2 := [(3, .int 0), (0, .ref 36), (1, .int (nI f)), (2, .int (nI k))]) dX12_readPoint_26 (by decide) rfl ?_
    refine x_iload_n dX12_readPoint_27 3 rfl ?_
    refine x_bipush (v := 8) dX12_readPoint_28 (by decide) ?_
    refine x_icmp_neN (tgt := 60) (a := k) (b := 8) (by omega) (by omega) dX12_readPoint_30 (by decide) (fun c_30 => ?_) (fun c_30 => ?_)
    · refine x_iload_n dX12_readPoint_60 3 rfl ?_
      refine x_bipush (v := 8) dX12_readPoint_61 (by decide) ?_
      refine x_icmp_neN (tgt := 74) (a := k) (b := 8) (by omega) (by omega) dX12_readPoint_63 (by decide) (fun c_63 => ?_) (fun c_63 => absurd c_63 (by omega))
      refine x_aload_n dX12_readPoint_74 1 rfl ?_
      refine x_iload_n dX12_readPoint_75 2 rfl ?_
      refine x_iconst (v := 3) dX12_readPoint_76 (by decide) ?_
      refine x_iaddN (a := f) (b := 3) dX12_readPoint_77 ?_
      refine x_iload_n dX12_readPoint_78 3 rfl ?_
      refine x_iaddN (a := (f + 3)) (b := k) dX12_readPoint_79 ?_
      refine x_iload_n dX12_readPoint_80 0 rfl ?_
      refine x_iload_n dX12_readPoint_81 3 rfl ?_
      refine x_if_neN (tgt := 89) (a := k) (by omega) dX12_readPoint_82 (by decide) (fun c_82 => absurd (by omega) c_82) (fun c_82 => ?_)
      refine x_iconst (v := 0) dX12_readPoint_85 (by decide) ?_
      refine x_goto (tgt := 91) dX12_readPoint_86 (by decide) ?_
      refine x_callV (rf' := 3) (rl' := 67) [.int (nI ((f + 3) + k)), .int 0, .int 0] [] dX12_readPoint_91 vX12_167 Y_X12_readInto f36 (by decide) rfl rfl (Nat.le_of_ble_eq_true rfl) (Nat.le_of_ble_eq_true rfl) (by decide) (by decide) (c_readInto (p := ((f + 3) + k)) (a := 0) (b := 0) htn hv hmt tk f36 f37 f38 (by omega)) (fun r h209 e210 => ?_)
      obtain ⟨sm213, e210⟩ := e210
      have sm213 : Sm [36, 38] h h209 := sm213
      have f215 := sm213.at f37 (by decide)
      have sm216 := sm0.tr (sm213.wide (by decide))
      cases q211 : numF tn tv 0 0 (j + 3 * k) with
      | none =>
        rw [q211] at e210
        obtain ⟨e0, m214, x217⟩ := e210
        cases e0
        obtain ⟨m218, m219, m220, m221, m222, m223, f224, tk225⟩ := m214
        have f224 : h209[36]? = some (cO 12 (MO ((x 0)) ((x 1)) ((x 2)) ((x 3)) ((nI tn)) m218 m219 m220 m221 m222 flt plc m223 ((nI (nv tn tv (j + 3 * k)))) ((x 4)) ((x 5)) ((x 6)) ((x 7)) ((x 8)) ((x 9)) ((x 10)) ((x 11)))) := f224
        have tk225 : TkM tn tv ((j + 3 * k) + 1) m218 m219 m220 m221 m222 m223 := tk225
        have x217 : h209[38]? = some (cI 10164 ((upd bk (484 * 20 + (((f + 3) + k))) (nI (nv tn tv (j + 3 * k)))))) := x217
        have kkq211 := numE q211
        refine x_if_ne (tgt := 99) dX12_readPoint_94 (by decide) (fun c_94 => ?_) (fun c_94 => absurd c_94 (by decide))
        refine x_aload_n dX12_readPoint_99 1 rfl ?_
        refine x_bipush (v := 58) dX12_readPoint_100 (by decide) ?_
        refine x_callV (rf' := 0) (rl' := 0) [.int 58] [] dX12_readPoint_102 vX12_170 Y_X12_isSign f224 (by decide) rfl rfl (Nat.le_of_ble_eq_true rfl) (Nat.le_of_ble_eq_true rfl) (by decide) (by decide) (c_isSign20 htn hv hmt tk225 f224 f215) (fun _ _ e226 => ?_)
        cases e226
        by_cases k227 : kd tn tv ((j + 3 * k) + 1) = 20
        · rw [if_pos k227]
          refine x_if_ne (tgt := 114) dX12_readPoint_105 (by decide) (fun c_105 => ?_) (fun c_105 => absurd c_105 (by decide))
          refine x_aload_n dX12_readPoint_114 1 rfl ?_
          refine x_callV (rf' := 1) (rl' := 21) [] [] dX12_readPoint_115 vX12_148 Y_X12_go f224 (by decide) rfl rfl (Nat.le_of_ble_eq_true rfl) (Nat.le_of_ble_eq_true rfl) (by decide) (by decide) (c_goN htn hv hmt tk225 f224 f215 (by omega)) (fun r h228 e229 => ?_)
          obtain ⟨e0, m231, sm230⟩ := e229
          cases e0
          have sm230 : Sm [36] h209 h228 := sm230
          have f232 := sm230.at f215 (by decide)
          have f233 := sm230.at x217 (by decide)
          have sm234 := sm216.tr (sm230.wide (by decide))
          obtain ⟨m235, m236, m237, m238, m239, m240, f241, tk242⟩ := m231
          have f241 : h228[36]? = some (cO 12 (MO ((x 0)) ((x 1)) ((x 2)) ((x 3)) ((nI tn)) m235 m236 m237 m238 m239 flt plc m240 ((nI (nv tn tv (j + 3 * k)))) ((x 4)) ((x 5)) ((x 6)) ((x 7)) ((x 8)) ((x 9)) ((x 10)) ((x 11)))) := f241
          have tk242 : TkM tn tv ((j + 3 * k) + 2) m235 m236 m237 m238 m239 m240 := tk242
          refine x_aload_n dX12_readPoint_118 1 rfl ?_
          refine x_iload_n dX12_readPoint_119 2 rfl ?_
          refine x_bipush (v := 11) dX12_readPoint_120 (by decide) ?_
          refine x_iaddN (a := f) (b := 11) dX12_readPoint_122 ?_
          refine x_iload_n dX12_readPoint_123 3 rfl ?_
          refine x_iaddN (a := (f + 11)) (b := k) dX12_readPoint_124 ?_
          refine x_iload_n dX12_readPoint_125 3 rfl ?_
          refine x_if_neN (tgt := 133) (a := k) (by omega) dX12_readPoint_126 (by decide) (fun c_126 => absurd (by omega) c_126) (fun c_126 => ?_)
          refine x_iconst (v := 0) dX12_readPoint_129 (by decide) ?_
          refine x_goto (tgt := 150) dX12_readPoint_130 (by decide) ?_
          refine x_ldc (v := 60000) dX12_readPoint_150 kX12_173 ?_
          refine x_callV (rf' := 3) (rl' := 67) [.int (nI ((f + 11) + k)), .int 0, .int 60000] [] dX12_readPoint_152 vX12_167 Y_X12_readInto f241 (by decide) rfl rfl (Nat.le_of_ble_eq_true rfl) (Nat.le_of_ble_eq_true rfl) (by decide) (by decide) (c_readInto (p := ((f + 11) + k)) (a := 0) (b := 60000) htn hv hmt tk242 f241 f232 f233 (by omega)) (fun r h243 e244 => ?_)
          obtain ⟨sm247, e244⟩ := e244
          have sm247 : Sm [36, 38] h228 h243 := sm247
          have f249 := sm247.at f232 (by decide)
          have sm250 := sm234.tr (sm247.wide (by decide))
          cases q245 : numF tn tv 0 60000 ((j + 3 * k) + 2) with
          | none =>
            rw [q245] at e244
            obtain ⟨e0, m248, x251⟩ := e244
            cases e0
            obtain ⟨m252, m253, m254, m255, m256, m257, f258, tk259⟩ := m248
            have f258 : h243[36]? = some (cO 12 (MO ((x 0)) ((x 1)) ((x 2)) ((x 3)) ((nI tn)) m252 m253 m254 m255 m256 flt plc m257 ((nI (nv tn tv ((j + 3 * k) + 2)))) ((x 4)) ((x 5)) ((x 6)) ((x 7)) ((x 8)) ((x 9)) ((x 10)) ((x 11)))) := f258
            have tk259 : TkM tn tv ((j + 3 * k) + 3) m252 m253 m254 m255 m256 m257 := tk259
            have x251 : h243[38]? = some (cI 10164 ((upd ((upd bk (484 * 20 + (((f + 3) + k))) (nI (nv tn tv (j + 3 * k))))) (484 * 20 + (((f + 11) + k))) (nI (nv tn tv ((j + 3 * k) + 2)))))) := x251
            have kkq245 := numE q245
            exact x_zret dX12_readPoint_155 rfl rfl ⟨sm250, by rw [show ptF tn tv j k = none by unfold ptF; rw [eL0, eU0, if_pos (show k = 0 by omega), q211, if_neg (by omega), show tokF tn tv 20 (j + 3 * k + 1) = none from if_pos k227, q245]; rfl]; exact ⟨rfl, by omega, ⟨_, ⟨_, _, _, _, _, _, f258, tk259⟩⟩, x251⟩⟩
          | some fl246 =>
            rw [q245] at e244
            obtain ⟨e0, m248, sx260⟩ := e244
            cases e0
            have sx260 : Sm [36] h228 h243 := sx260
            have f261 := sx260.at f233 (by decide)
            exact x_zret dX12_readPoint_155 rfl rfl ⟨sm250, by rw [show ptF tn tv j k = some fl246 by unfold ptF; rw [eL0, eU0, if_pos (show k = 0 by omega), q211, if_neg (by omega), show tokF tn tv 20 (j + 3 * k + 1) = none from if_pos k227, q245]; rfl]; exact ⟨rfl, m248, ⟨_, f261, fun j hj => by rw [pk_un (by omega)]⟩⟩⟩
        · rw [if_neg k227]
          refine x_if_ne (tgt := 114) dX12_readPoint_105 (by decide) (fun c_105 => absurd (by decide) c_105) (fun c_105 => ?_)
          refine x_aload_n dX12_readPoint_108 1 rfl ?_
          refine x_iconst (v := 1) dX12_readPoint_109 (by decide) ?_
          refine x_callV (rf' := 0) (rl' := 0) [.int 1] [] dX12_readPoint_110 vX12_145 Y_X12_bad f224 (by decide) rfl rfl (Nat.le_of_ble_eq_true rfl) (Nat.le_of_ble_eq_true rfl) (by decide) (by decide) (c_bad (k := 1) htn hv hmt tk225 f224 f215 (fun _ => rfl)) (fun r h262 e263 => ?_)
          obtain ⟨sm264, e0, m265⟩ := e263
          cases e0
          have sm264 : Sm [36] h209 h262 := sm264
          have f266 := sm264.at f215 (by decide)
          have f267 := sm264.at x217 (by decide)
          have sm268 := sm216.tr (sm264.wide (by decide))
          exact x_zret dX12_readPoint_113 rfl rfl ⟨sm268, by rw [show ptF tn tv j k = some (1, j + 3 * k + 1) by unfold ptF; rw [eL0, eU0, if_pos (show k = 0 by omega), q211, if_neg (by omega), show tokF tn tv 20 (j + 3 * k + 1) = some (1, j + 3 * k + 1) from if_neg k227]; rfl]; exact ⟨rfl, m265, ⟨_, f267, fun j hj => by rw [pk_un (by omega)]⟩⟩⟩
      | some fl212 =>
        rw [q211] at e210
        obtain ⟨e0, m214, sx269⟩ := e210
        cases e0
        have sx269 : Sm [36] h h209 := sx269
        have f270 := sx269.at f38 (by decide)
        refine x_if_ne (tgt := 99) dX12_readPoint_94 (by decide) (fun c_94 => absurd (by decide) c_94) (fun c_94 => ?_)
        refine x_iconst (v := 0) dX12_readPoint_97 (by decide) ?_
        exact x_zret dX12_readPoint_98 rfl rfl ⟨sm216, by rw [show ptF tn tv j k = some fl212 by unfold ptF; rw [eL0, eU0, if_pos (show k = 0 by omega), q211]; rfl]; exact ⟨rfl, m214, ⟨_, f270, fun j hj => rfl⟩⟩⟩
    · refine x_aload_n dX12_readPoint_33 1 rfl ?_
      refine x_get (v := .int knd) dX12_readPoint_34 fX12_81 f36 (by decide) rfl ?_
      refine x_iconst (v := 3) dX12_readPoint_37 (by decide) ?_
      refine x_icmp_ne (tgt := 60) dX12_readPoint_38 (by decide) (fun c_38 => ?_) (fun c_38 => ?_)
      · refine x_iload_n dX12_readPoint_60 3 rfl ?_
        refine x_bipush (v := 8) dX12_readPoint_61 (by decide) ?_
        refine x_icmp_neN (tgt := 74) (a := k) (b := 8) (by omega) (by omega) dX12_readPoint_63 (by decide) (fun c_63 => absurd (by omega) c_63) (fun c_63 => ?_)
        refine x_aload_n dX12_readPoint_66 1 rfl ?_
        refine x_iload_n dX12_readPoint_67 0 rfl ?_
        refine x_bipush (v := 95) dX12_readPoint_68 (by decide) ?_
        refine x_callV (rf' := 2) (rl' := 45) [.int 0, .int 95] [] dX12_readPoint_70 vX12_163 Y_X12_readNumber f36 (by decide) rfl rfl (Nat.le_of_ble_eq_true rfl) (Nat.le_of_ble_eq_true rfl) (by decide) (by decide) (c_readNumberM (a := 0) (b := 95) htn hv hmt tk f36 f37) (fun r h271 e272 => ?_)
        obtain ⟨sm275, e272⟩ := e272
        have sm275 : Sm [36] h h271 := sm275
        have f277 := sm275.at f37 (by decide)
        have f278 := sm275.at f38 (by decide)
        have sm279 := sm0.tr (sm275.wide (by decide))
        cases q273 : numF tn tv 0 95 (j + 3 * k) with
        | none =>
          rw [q273] at e272
          obtain ⟨e0, m276⟩ := e272
          cases e0
          obtain ⟨m280, m281, m282, m283, m284, m285, f286, tk287⟩ := m276
          have f286 : h271[36]? = some (cO 12 (MO ((x 0)) ((x 1)) ((x 2)) ((x 3)) ((nI tn)) m280 m281 m282 m283 m284 flt plc m285 ((nI (nv tn tv (j + 3 * k)))) ((x 4)) ((x 5)) ((x 6)) ((x 7)) ((x 8)) ((x 9)) ((x 10)) ((x 11)))) := f286
          have tk287 : TkM tn tv ((j + 3 * k) + 1) m280 m281 m282 m283 m284 m285 := tk287
          have kkq273 := numE q273
          exact x_zret dX12_readPoint_73 rfl rfl (absurd c_30 (by omega))
        | some fl274 =>
          rw [q273] at e272
          obtain ⟨e0, m276⟩ := e272
          cases e0
          exact x_zret dX12_readPoint_73 rfl rfl (absurd c_30 (by omega))
      · refine x_aload_n dX12_readPoint_41 1 rfl ?_
        refine x_get (v := .int num) dX12_readPoint_42 fX12_98 f36 (by decide) rfl ?_
        refine x_iload_n dX12_readPoint_45 0 rfl ?_
        refine x_bipush (v := 95) dX12_readPoint_46 (by decide) ?_
        have k18 := tk.k3.mp c_38
        have en := (tk.2.2.2.2.1 k18).2
        refine x_callS (rf' := 0) (rl' := 0) [.int num, .int 0, .int 95] [] dX12_readPoint_48 vX12_65 Y_X12_isIn rfl rfl (Nat.le_of_ble_eq_true rfl) (Nat.le_of_ble_eq_true rfl) (by decide) (by decide) c_isIn (fun _ _ e289 => ?_)
        cases e289
        by_cases hI : num < 0 ∨ 95 < num
        · rw [if_pos hI]
          refine x_if_eq (tgt := 60) dX12_readPoint_51 (by decide) (fun c_51 => ?_) (fun c_51 => absurd (by decide) c_51)
          refine x_iload_n dX12_readPoint_60 3 rfl ?_
          refine x_bipush (v := 8) dX12_readPoint_61 (by decide) ?_
          refine x_icmp_neN (tgt := 74) (a := k) (b := 8) (by omega) (by omega) dX12_readPoint_63 (by decide) (fun c_63 => absurd (by omega) c_63) (fun c_63 => ?_)
          refine x_aload_n dX12_readPoint_66 1 rfl ?_
          refine x_iload_n dX12_readPoint_67 0 rfl ?_
          refine x_bipush (v := 95) dX12_readPoint_68 (by decide) ?_
          refine x_callV (rf' := 2) (rl' := 45) [.int 0, .int 95] [] dX12_readPoint_70 vX12_163 Y_X12_readNumber f36 (by decide) rfl rfl (Nat.le_of_ble_eq_true rfl) (Nat.le_of_ble_eq_true rfl) (by decide) (by decide) (c_readNumberM (a := 0) (b := 95) htn hv hmt tk f36 f37) (fun r h290 e291 => ?_)
          obtain ⟨sm294, e291⟩ := e291
          have sm294 : Sm [36] h h290 := sm294
          have f296 := sm294.at f37 (by decide)
          have f297 := sm294.at f38 (by decide)
          have sm298 := sm0.tr (sm294.wide (by decide))
          cases q292 : numF tn tv 0 95 (j + 3 * k) with
          | none =>
            rw [q292] at e291
            obtain ⟨e0, m295⟩ := e291
            cases e0
            obtain ⟨m299, m300, m301, m302, m303, m304, f305, tk306⟩ := m295
            have f305 : h290[36]? = some (cO 12 (MO ((x 0)) ((x 1)) ((x 2)) ((x 3)) ((nI tn)) m299 m300 m301 m302 m303 flt plc m304 ((nI (nv tn tv (j + 3 * k)))) ((x 4)) ((x 5)) ((x 6)) ((x 7)) ((x 8)) ((x 9)) ((x 10)) ((x 11)))) := f305
            have tk306 : TkM tn tv ((j + 3 * k) + 1) m299 m300 m301 m302 m303 m304 := tk306
            have kkq292 := numE q292
            exact x_zret dX12_readPoint_73 rfl rfl (absurd c_30 (by omega))
          | some fl293 =>
            rw [q292] at e291
            obtain ⟨e0, m295⟩ := e291
            cases e0
            exact x_zret dX12_readPoint_73 rfl rfl (absurd c_30 (by omega))
        · rw [if_neg hI]
          refine x_if_eq (tgt := 60) dX12_readPoint_51 (by decide) (fun c_51 => absurd c_51 (by decide)) (fun c_51 => ?_)
          refine x_aload_n dX12_readPoint_54 1 rfl ?_
          refine x_iconst (v := 4) dX12_readPoint_55 (by decide) ?_
          refine x_callV (rf' := 0) (rl' := 0) [.int 4] [] dX12_readPoint_56 vX12_145 Y_X12_bad f36 (by decide) rfl rfl (Nat.le_of_ble_eq_true rfl) (Nat.le_of_ble_eq_true rfl) (by decide) (by decide) (c_bad (k := 4) htn hv hmt tk f36 f37 (fun z => by have := tk.k1 z; omega)) (fun r h308 e309 => ?_)
          obtain ⟨sm310, e0, m311⟩ := e309
          cases e0
          have sm310 : Sm [36] h h308 := sm310
          have f312 := sm310.at f37 (by decide)
          have f313 := sm310.at f38 (by decide)
          have sm314 := sm0.tr (sm310.wide (by decide))
          exact x_zret dX12_readPoint_59 rfl rfl (absurd c_30 (by omega))

set_option maxRecDepth 100000 in
set_option maxHeartbeats 4000000 in
theorem l_foamM {G : GT} {h0 : List PE} {tn j : Nat} {tv : Nat → Nat} {mtp bk0 : Nat → Int32} {flt plc : Int32} {x : Nat → Int32} {c : CN} {Q : OT → Prop} (htn : tn ≤ 640) (hv : ∀ j, j < tn → tv j < 256) (hmt : ∀ j, j < tn → mtp j = nI (tv j)) (hc : c.1 < 8) (f37 : h0[37]? = some (cI 640 mtp)) : ∀ (m k : Nat) (h : List PE) (tld : Int32) (bk : Nat → Int32), m + k = 9 → k ≤ 8 → Sm [36, 38] h0 h → MRd h tn tv (j + 3 * k) x flt plc tld → h[38]? = some (cI 10164 bk) → (∀ m, m < k → bk (484 * 20 + ((4 + 20 * c.1) + 3 + m)) = nI (nv tn tv (j + 3 * m)) ∧ bk (484 * 20 + ((4 + 20 * c.1) + 11 + m)) = nI (nv tn tv (j + 3 * m + 2))) → (∀ q, (q < 484 * 20 + ((4 + 20 * c.1) + 3) ∨ (484 * 20 + ((4 + 20 * c.1) + 3 + k) ≤ q ∧ q < 484 * 20 + ((4 + 20 * c.1) + 11)) ∨ 484 * 20 + ((4 + 20 * c.1) + 11 + k) ≤ q) → bk q = bk0 q) → (∀ (np : Nat) (h : List PE) (tld : Int32) (bk : Nat → Int32), ptsF tn tv j m k = .inr np → Sm [36, 38] h0 h → MRd h tn tv (j + 3 * np) x flt plc tld → h[38]? = some (cI 10164 bk) → (∀ m, m < np → bk (484 * 20 + ((4 + 20 * c.1) + 3 + m)) = nI (nv tn tv (j + 3 * m)) ∧ bk (484 * 20 + ((4 + 20 * c.1) + 11 + m)) = nI (nv tn tv (j + 3 * m + 2))) → (∀ q, (q < 484 * 20 + ((4 + 20 * c.1) + 3) ∨ (484 * 20 + ((4 + 20 * c.1) + 3 + np) ≤ q ∧ q < 484 * 20 + ((4 + 20 * c.1) + 11)) ∨ 484 * 20 + ((4 + 20 * c.1) + 11 + np) ≤ q) → bk q = bk0 q) → X (NF G) G mX12_readFoam 5 113 76 [(3, .int (nI np)), (2, .int (nI (4 + 20 * c.1))), (0, .ref 36)] [] h Q) → (∀ (f : Nat × Nat) (h : List PE), ptsF tn tv j m k = .inl f → Sm [36, 38] h0 h → MBd h tn tv x f → RgB h bk0 → Q (some (.int 0), h)) → X (NF G) G mX12_readFoam 5 113 46 [(3, .int (nI k)), (2, .int (nI (4 + 20 * c.1))), (0, .ref 36)] [] h Q := by
  intro m
  induction m with
  | zero => intro k h tld bk hm hk; omega
  | succ m ih =>
    intro k h tld bk hm hk sm hM f38 hg ho KX KF
    have g37 := sm.at f37 (by decide)
    obtain ⟨too, frm, knd, num, sgn, wrd, f36, tk⟩ := id hM
    refine x_iload_n dX12_readFoam_46 0 rfl ?_
    refine x_iconst (v := 2) dX12_readFoam_47 (by decide) ?_
    refine x_icmp_ltN (tgt := 59) (a := k) (b := 2) (by omega) (by omega) dX12_readFoam_48 (by decide) (fun c_48 => ?_) (fun c_48 => ?_)
    · refine x_aload_n dX12_readFoam_59 2 rfl ?_
      refine x_iload_n dX12_readFoam_60 1 rfl ?_
      refine x_iload_n dX12_readFoam_61 0 rfl ?_
      have nb : ¬ (2 ≤ k ∧ ¬ kd tn tv (j + 3 * k) = 18) := by omega
      refine x_callV (rf' := 4) (rl' := 90) [.int (nI (4 + 20 * c.1)), .int (nI k)] [] dX12_readFoam_62 vX12_177 Y_X12_readPoint f36 (by decide) rfl rfl (Nat.le_of_ble_eq_true rfl) (Nat.le_of_ble_eq_true rfl) (by decide) (by decide) (m_readPoint (f := (4 + 20 * c.1)) htn hv hmt tk f36 g37 f38 hk (by omega) (Or.inl (by omega)) hg) (fun r h101 e102 => ?_)
      obtain ⟨sm1, e1⟩ := e102
      have sm1 : Sm [36, 38] h h101 := sm1
      cases hp : ptF tn tv j k with
      | some f =>
        rw [hp] at e1
        obtain ⟨e0, mb, bk9, g38, h38⟩ := e1
        cases e0
        refine x_if_ne (tgt := 70) dX12_readFoam_65 (by decide) (fun c_65 => absurd (by decide) c_65) (fun c_65 => ?_)
        refine x_iconst (v := 0) dX12_readFoam_68 (by decide) ?_
        exact x_zret dX12_readFoam_69 rfl rfl (KF f h101 (by show (if 2 ≤ k ∧ ¬ kd tn tv (j + 3 * k) = 18 then _ else _) = _; rw [if_neg nb, hp]) (sm.tr sm1) mb ⟨bk9, g38, fun q hq => (h38 q hq).trans (ho q (by omega))⟩)
      | none =>
        rw [hp] at e1
        obtain ⟨e0, h8, ⟨tld2, hM2⟩, g38⟩ := e1
        cases e0
        refine x_if_ne (tgt := 70) dX12_readFoam_65 (by decide) (fun c_65 => ?_) (fun c_65 => absurd c_65 (by decide))
        refine x_iincN (lv2 := [(3, .int (nI (k + 1))), (2, .int (nI (4 + 20 * c.1))), (0, .ref 36)]) dX12_readFoam_70 0 rfl (by decide) rfl ?_
        refine x_goto (tgt := 46) dX12_readFoam_73 (by decide) ?_
        refine x_perm (lv2 := [(3, .int (nI (k + 1))), (2, .int (nI (4 + 20 * c.1))), (0, .ref 36)]) [0, 1, 2] rfl ?_
        have eS : ptsF tn tv j (m + 1) k = ptsF tn tv j m (k + 1) := by show (if 2 ≤ k ∧ ¬ kd tn tv (j + 3 * k) = 18 then _ else _) = _; rw [if_neg nb, hp]
        rw [eS] at KX KF
        refine ih (k + 1) h101 tld2 _ (by omega) (by omega) (sm.tr sm1) hM2 g38 (fun m9 hm9 => ?_) (fun q hq => ?_) KX KF
        · by_cases e : m9 = k
          · subst e; rw [pk_us, pk_un (by omega), pk_us]; exact ⟨rfl, rfl⟩
          · rw [pk_un (by omega), pk_un (by omega), pk_un (by omega), pk_un (by omega)]; exact hg m9 (by omega)
        · rw [pk_un (by omega), pk_un (by omega)]; exact ho q (by omega)
    · refine x_aload_n dX12_readFoam_51 2 rfl ?_
      refine x_get (v := .int knd) dX12_readFoam_52 fX12_81 f36 (by decide) rfl ?_
      refine x_iconst (v := 3) dX12_readFoam_55 (by decide) ?_
      refine x_icmp_ne (tgt := 76) dX12_readFoam_56 (by decide) (fun c_56 => ?_) (fun c_56 => ?_)
      · refine x_perm [0, 1, 2] rfl ?_
        exact KX k h tld bk (if_pos ⟨by omega, fun z => c_56 (tk.k3.mpr z)⟩) sm hM f38 hg ho
      · refine x_aload_n dX12_readFoam_59 2 rfl ?_
        refine x_iload_n dX12_readFoam_60 1 rfl ?_
        refine x_iload_n dX12_readFoam_61 0 rfl ?_
        have nb : ¬ (2 ≤ k ∧ ¬ kd tn tv (j + 3 * k) = 18) := fun z => z.2 (tk.k3.mp c_56)
        refine x_callV (rf' := 4) (rl' := 90) [.int (nI (4 + 20 * c.1)), .int (nI k)] [] dX12_readFoam_62 vX12_177 Y_X12_readPoint f36 (by decide) rfl rfl (Nat.le_of_ble_eq_true rfl) (Nat.le_of_ble_eq_true rfl) (by decide) (by decide) (m_readPoint (f := (4 + 20 * c.1)) htn hv hmt tk f36 g37 f38 hk (by omega) (Or.inr (tk.k3.mp c_56)) hg) (fun r h103 e104 => ?_)
        obtain ⟨sm1, e1⟩ := e104
        have sm1 : Sm [36, 38] h h103 := sm1
        cases hp : ptF tn tv j k with
        | some f =>
          rw [hp] at e1
          obtain ⟨e0, mb, bk9, g38, h38⟩ := e1
          cases e0
          refine x_if_ne (tgt := 70) dX12_readFoam_65 (by decide) (fun c_65 => absurd (by decide) c_65) (fun c_65 => ?_)
          refine x_iconst (v := 0) dX12_readFoam_68 (by decide) ?_
          exact x_zret dX12_readFoam_69 rfl rfl (KF f h103 (by show (if 2 ≤ k ∧ ¬ kd tn tv (j + 3 * k) = 18 then _ else _) = _; rw [if_neg nb, hp]) (sm.tr sm1) mb ⟨bk9, g38, fun q hq => (h38 q hq).trans (ho q (by omega))⟩)
        | none =>
          rw [hp] at e1
          obtain ⟨e0, h8, ⟨tld2, hM2⟩, g38⟩ := e1
          cases e0
          refine x_if_ne (tgt := 70) dX12_readFoam_65 (by decide) (fun c_65 => ?_) (fun c_65 => absurd c_65 (by decide))
          refine x_iincN (lv2 := [(3, .int (nI (k + 1))), (2, .int (nI (4 + 20 * c.1))), (0, .ref 36)]) dX12_readFoam_70 0 rfl (by decide) rfl ?_
          refine x_goto (tgt := 46) dX12_readFoam_73 (by decide) ?_
          refine x_perm (lv2 := [(3, .int (nI (k + 1))), (2, .int (nI (4 + 20 * c.1))), (0, .ref 36)]) [0, 1, 2] rfl ?_
          have eS : ptsF tn tv j (m + 1) k = ptsF tn tv j m (k + 1) := by show (if 2 ≤ k ∧ ¬ kd tn tv (j + 3 * k) = 18 then _ else _) = _; rw [if_neg nb, hp]
          rw [eS] at KX KF
          refine ih (k + 1) h103 tld2 _ (by omega) (by omega) (sm.tr sm1) hM2 g38 (fun m9 hm9 => ?_) (fun q hq => ?_) KX KF
          · by_cases e : m9 = k
            · subst e; rw [pk_us, pk_un (by omega), pk_us]; exact ⟨rfl, rfl⟩
            · rw [pk_un (by omega), pk_un (by omega), pk_un (by omega), pk_un (by omega)]; exact hg m9 (by omega)
          · rw [pk_un (by omega), pk_un (by omega)]; exact ho q (by omega)

theorem fom_cong {tn i np : Nat} {tv : Nat → Nat} {c : CN} {bk bk7 R : Nat → Int32} (hR : ∀ j, j < 484 → bk (484 * 20 + j) = R j) (hN : fomN tn tv i = np) (h8 : np ≤ 8) (hg : ∀ m, m < np → bk7 (484 * 20 + ((4 + 20 * c.1) + 3 + m)) = nI (nv tn tv (i + 2 + 3 * m)) ∧ bk7 (484 * 20 + ((4 + 20 * c.1) + 11 + m)) = nI (nv tn tv (i + 2 + 3 * m + 2))) (ho : ∀ q, (q < 484 * 20 + ((4 + 20 * c.1) + 3) ∨ (484 * 20 + ((4 + 20 * c.1) + 3 + np) ≤ q ∧ q < 484 * 20 + ((4 + 20 * c.1) + 11)) ∨ 484 * 20 + ((4 + 20 * c.1) + 11 + np) ≤ q) → bk7 q = bk q) : ∀ j, j < 484 → (upd (upd (upd (upd bk7 (484 * 20 + (4 + 20 * c.1)) (nI np)) (484 * 20 + ((4 + 20 * c.1) + 1)) (nI (nv tn tv (i + 2 + 3 * np + 1)))) (484 * 20 + ((4 + 20 * c.1) + 2)) (nI (nv tn tv (i + 2 + 3 * np + 3)))) (484 * 20) (nI (c.1 + 1))) (484 * 20 + j) = fomR tn tv c.1 i R j := by
  intro j hj
  unfold fomR
  rw [hN]
  by_cases e0 : j = 0
  · subst e0
    rw [if_neg (by omega), if_neg (by omega), if_neg (by omega), if_neg (by omega), if_neg (by omega), if_pos rfl]
    exact pk_us
  rw [pk_un (by omega)]
  by_cases e1 : j = 4 + 20 * c.1
  · rw [if_pos e1, pk_un (by omega), pk_un (by omega), e1, pk_us]
  rw [if_neg e1]
  by_cases e2 : j = 4 + 20 * c.1 + 1
  · rw [if_pos e2, pk_un (by omega), e2, pk_us, show i + 3 + 3 * np = i + 2 + 3 * np + 1 by omega]
  rw [if_neg e2]
  by_cases e3 : j = 4 + 20 * c.1 + 2
  · rw [if_pos e3, e3, pk_us, show i + 5 + 3 * np = i + 2 + 3 * np + 3 by omega]
  rw [if_neg e3, pk_un (by omega), pk_un (by omega), pk_un (by omega)]
  by_cases e4 : 4 + 20 * c.1 + 3 ≤ j ∧ j < 4 + 20 * c.1 + 3 + np
  · rw [if_pos e4]
    have := (hg (j - (4 + 20 * c.1 + 3)) (by omega)).1
    rw [show 484 * 20 + (4 + 20 * c.1 + 3 + (j - (4 + 20 * c.1 + 3))) = 484 * 20 + j by omega] at this
    exact this
  rw [if_neg e4]
  by_cases e5 : 4 + 20 * c.1 + 11 ≤ j ∧ j < 4 + 20 * c.1 + 11 + np
  · rw [if_pos e5]
    have := (hg (j - (4 + 20 * c.1 + 11)) (by omega)).2
    rw [show 484 * 20 + (4 + 20 * c.1 + 11 + (j - (4 + 20 * c.1 + 11))) = 484 * 20 + j by omega, show i + 2 + 3 * (j - (4 + 20 * c.1 + 11)) + 2 = i + 4 + 3 * (j - (4 + 20 * c.1 + 11)) by omega] at this
    exact this
  rw [if_neg e5, if_neg e0, ho _ (by omega)]
  exact hR j hj

set_option maxRecDepth 100000 in
set_option maxHeartbeats 4000000 in
theorem m_readFoam {G : GT} {h : List PE} {tn : Nat} {tv : Nat → Nat} {mtp : Nat → Int32} {flt plc tld too frm knd num sgn : Int32} {wrd : Int64} {x : Nat → Int32} {i : Nat} (htn : tn ≤ 640) (hv : ∀ j, j < tn → tv j < 256) (hmt : ∀ j, j < tn → mtp j = nI (tv j)) (tk : TkM tn tv i too frm knd num sgn wrd) {bk R : Nat → Int32} {nm : Nat → Int64} {nl : NL'} {c : CN} (f36 : h[36]? = some (cO 12 (MO ((x 0)) ((x 1)) ((x 2)) ((x 3)) ((nI tn)) too frm knd num sgn flt plc wrd tld ((x 4)) ((x 5)) ((x 6)) ((x 7)) ((x 8)) ((x 9)) ((x 10)) ((x 11))))) (f37 : h[37]? = some (cI 640 mtp)) (f38 : h[38]? = some (cI 10164 bk)) (f40 : h[40]? = some (cJ 24 nm)) (hR : ∀ j, j < 484 → bk (484 * 20 + j) = R j) (hnp : NmP nm nl c) (W : WFk R c) (hnl : NlOk nl c) (hk : kd tn tv i = 0)  : CT G mX12_readFoam 5 113 [.ref 36] h (MLn h (fomF tn tv nl c.1 i) tn tv (i + 6 + 3 * fomN tn tv i) x flt plc bk (fomR tn tv c.1 i R) (nl ++ [(0, c.1, wn tn tv (i + 1))]) (c.1 + 1, c.2.1, c.2.2.1, c.2.2.2)) := by
  have hRs := rsort hR W
  have w8 := wf8 W
  have w1 := W.2.1
  have w3 := W.2.2.2.1
  have w5 := W.2.2.2.2.2.1
  have w7 := W.2.2.2.2.2.2.2.1
  have sm0 : Sm [36, 38, 40] h h := Sm.rf
  show X (NF G) G mX12_readFoam 5 113 0 [(0, .ref 36)] [] h _
  refine x_aload_n dX12_readFoam_0 0 rfl ?_
  refine x_get (v := .ref 38) dX12_readFoam_1 fX12_13 f36 (by decide) rfl ?_
  refine x_bipush (v := 20) dX12_readFoam_4 (by decide) ?_
  refine x_callS (rf' := 0) (rl' := 0) [.int 20] [.ref 38] dX12_readFoam_6 vX12_154 Y_X12_at rfl rfl (Nat.le_of_ble_eq_true rfl) (Nat.le_of_ble_eq_true rfl) (by decide) (by decide) (c_at (b := 20)) (fun _ _ e101 => ?_)
  cases e101
  refine x_ialdN (i := (484 * 20)) dX12_readFoam_9 f38 (by decide) (by omega) (by decide) ?_
  rw [show (bk ((484 * 20))) = nI (c.1) from hRs 0 (by decide)]
  refine x_istore_n (lv2 := [(1, .int (nI (c.1))), (0, .ref 36)]) dX12_readFoam_10 (by decide) rfl ?_
  refine x_iload_n dX12_readFoam_11 0 rfl ?_
  refine x_bipush (v := 8) dX12_readFoam_12 (by decide) ?_
  refine x_icmp_neN (tgt := 23) (a := (c.1)) (b := 8) (by omega) (by omega) dX12_readFoam_14 (by decide) (fun c_14 => ?_) (fun c_14 => ?_)
  · refine x_aload_n dX12_readFoam_23 1 rfl ?_
    refine x_callV (rf' := 1) (rl' := 21) [] [] dX12_readFoam_24 vX12_148 Y_X12_go f36 (by decide) rfl rfl (Nat.le_of_ble_eq_true rfl) (Nat.le_of_ble_eq_true rfl) (by decide) (by decide) (c_goN htn hv hmt tk f36 f37 (by omega)) (fun r h102 e103 => ?_)
    obtain ⟨e0, m105, sm104⟩ := e103
    cases e0
    have sm104 : Sm [36] h h102 := sm104
    have f106 := sm104.at f37 (by decide)
    have f107 := sm104.at f38 (by decide)
    have f108 := sm104.at f40 (by decide)
    have sm109 := sm0.tr (sm104.wide (by decide))
    obtain ⟨m110, m111, m112, m113, m114, m115, f116, tk117⟩ := m105
    have f116 : h102[36]? = some (cO 12 (MO ((x 0)) ((x 1)) ((x 2)) ((x 3)) ((nI tn)) m110 m111 m112 m113 m114 flt plc m115 tld ((x 4)) ((x 5)) ((x 6)) ((x 7)) ((x 8)) ((x 9)) ((x 10)) ((x 11)))) := f116
    have tk117 : TkM tn tv (i + 1) m110 m111 m112 m113 m114 m115 := tk117
    refine x_aload_n dX12_readFoam_27 1 rfl ?_
    refine x_iconst (v := 0) dX12_readFoam_28 (by decide) ?_
    refine x_callV (rf' := 3) (rl' := 66) [.int 0] [] dX12_readFoam_29 vX12_174 Y_X12_readName f116 (by decide) rfl rfl (Nat.le_of_ble_eq_true rfl) (Nat.le_of_ble_eq_true rfl) (by decide) (by decide) (c_readNameM (k := 0) htn hv hmt tk117 f116 f106 f107 f108 hRs hnp w8 (by decide) (show c.1 < 8 by omega)) (fun r h118 e119 => ?_)
    obtain ⟨sm122, e119⟩ := e119
    have sm122 : Sm [36, 40] h102 h118 := sm122
    have f124 := sm122.at f106 (by decide)
    have f125 := sm122.at f107 (by decide)
    have sm126 := sm109.tr (sm122.wide (by decide))
    cases q120 : newF tn tv nl (i + 1) with
    | none =>
      rw [q120] at e119
      obtain ⟨e0, m123, x127, x128⟩ := e119
      cases e0
      obtain ⟨m129, m130, m131, m132, m133, m134, f135, tk136⟩ := m123
      have f135 : h118[36]? = some (cO 12 (MO ((x 0)) ((x 1)) ((x 2)) ((x 3)) ((nI tn)) m129 m130 m131 m132 m133 flt plc m134 tld ((x 4)) ((x 5)) ((x 6)) ((x 7)) ((x 8)) ((x 9)) ((x 10)) ((x 11)))) := f135
      have tk136 : TkM tn tv (i + 2) m129 m130 m131 m132 m133 m134 := tk136
      have x127 : h118[40]? = some (cJ 24 ((vp_updL nm (8 * 0 + cS c 0) (lN (wn tn tv (i + 1)))))) := x127
      have kkq120 := newE q120
      refine x_if_ne (tgt := 37) dX12_readFoam_32 (by decide) (fun c_32 => ?_) (fun c_32 => absurd c_32 (by decide))
      refine x_iconst (v := 4) dX12_readFoam_37 (by decide) ?_
      refine x_bipush (v := 20) dX12_readFoam_38 (by decide) ?_
      refine x_iload_n dX12_readFoam_40 0 rfl ?_
      refine x_imulN (a := 20) (b := (c.1)) dX12_readFoam_41 ?_
      refine x_iaddN (a := 4) (b := (20 * (c.1))) dX12_readFoam_42 ?_
      refine x_istore_n (lv2 := [(2, .int (nI (4 + (20 * (c.1))))), (1, .int (nI (c.1))), (0, .ref 36)]) dX12_readFoam_43 (by decide) rfl ?_
      refine x_iconst (v := 0) dX12_readFoam_44 (by decide) ?_
      refine x_istore_n (lv2 := [(3, .int 0), (2, .int (nI (4 + (20 * (c.1))))), (1, .int (nI (c.1))), (0, .ref 36)]) dX12_readFoam_45 (by decide) rfl ?_
      refine x_perm (lv2 := [(3, .int (nI 0)), (2, .int (nI (4 + 20 * c.1))), (0, .ref 36)]) [0, 1, 3] rfl ?_
      refine l_foamM (h0 := h118) (j := i + 2) (bk0 := bk) htn hv hmt (by omega) f124 9 0 h118 _ bk rfl (by decide) Sm.rf ⟨_, _, _, _, _, _, f135, tk136⟩ f125 (fun m hm => absurd hm (Nat.not_lt_zero m)) (fun q _ => rfl) (fun np h7 tld7 bk7 hp sm7 hM7 g38 hg ho => ?_) (fun f h7 hp sm7 mb rg => ?_)
      · obtain ⟨-, hp2, hp8, -⟩ := pts_spec 9 0 np rfl hp (by decide)
        have hN9 : fomN tn tv i = np := by unfold fomN; rw [hp]
        have f137 := sm7.at f124 (by decide)
        have f138 := sm7.at x127 (by decide)
        have sm139 := sm126.tr (sm7.wide (by decide))
        obtain ⟨m140, m141, m142, m143, m144, m145, f146, tk147⟩ := hM7
        have f146 : h7[36]? = some (cO 12 (MO ((x 0)) ((x 1)) ((x 2)) ((x 3)) ((nI tn)) m140 m141 m142 m143 m144 flt plc m145 tld7 ((x 4)) ((x 5)) ((x 6)) ((x 7)) ((x 8)) ((x 9)) ((x 10)) ((x 11)))) := f146
        have tk147 : TkM tn tv (i + 2 + 3 * np) m140 m141 m142 m143 m144 m145 := tk147
        refine x_aload_n dX12_readFoam_76 2 rfl ?_
        refine x_get (v := .ref 38) dX12_readFoam_77 fX12_13 f146 (by decide) rfl ?_
        refine x_bipush (v := 20) dX12_readFoam_80 (by decide) ?_
        refine x_callS (rf' := 0) (rl' := 0) [.int 20] [.ref 38] dX12_readFoam_82 vX12_154 Y_X12_at rfl rfl (Nat.le_of_ble_eq_true rfl) (Nat.le_of_ble_eq_true rfl) (by decide) (by decide) (c_at (b := 20)) (fun _ _ e148 => ?_)
        cases e148
        refine x_iload_n dX12_readFoam_85 1 rfl ?_
        refine x_iaddN (a := (484 * 20)) (b := (4 + 20 * c.1)) dX12_readFoam_86 ?_
        refine x_iload_n dX12_readFoam_87 0 rfl ?_
        refine x_iastN (i := ((484 * 20) + (4 + 20 * c.1))) dX12_readFoam_88 g38 (by decide) (by omega) (by decide) (fun h149 a150 e151 l152 s153 => ?_)
        have f154 := (e151 36 (by decide)).trans f146
        have f155 := (e151 37 (by decide)).trans f137
        have f156 := (e151 40 (by decide)).trans f138
        have sm157 := Sm.put sm139 e151 l152 s153 (by decide)
        refine x_aload_n dX12_readFoam_89 2 rfl ?_
        refine x_bipush (v := 107) dX12_readFoam_90 (by decide) ?_
        refine x_bipush (v := 101) dX12_readFoam_92 (by decide) ?_
        refine x_bipush (v := 101) dX12_readFoam_94 (by decide) ?_
        refine x_bipush (v := 112) dX12_readFoam_96 (by decide) ?_
        refine x_bipush (v := 115) dX12_readFoam_98 (by decide) ?_
        refine x_callS (rf' := 0) (rl' := 0) [.int 107, .int 101, .int 101, .int 112, .int 115] [.ref 36] dX12_readFoam_100 vX12_109 Y_X12_spelt rfl rfl (Nat.le_of_ble_eq_true rfl) (Nat.le_of_ble_eq_true rfl) (by decide) (by decide) c_spelt5 (fun _ _ e158 => ?_)
        cases e158
        refine x_callV (rf' := 2) (rl' := 45) [.long (lN (k27 5))] [] dX12_readFoam_103 vX12_180 Y_X12_readKey f154 (by decide) rfl rfl (Nat.le_of_ble_eq_true rfl) (Nat.le_of_ble_eq_true rfl) (by decide) (by decide) (c_readKey (n := 5) (by decide) htn hv hmt tk147 f154 f155) (fun r h159 e160 => ?_)
        obtain ⟨sm163, e160⟩ := e160
        have sm163 : Sm [36] h149 h159 := sm163
        have f165 := sm163.at f155 (by decide)
        have f166 := sm163.at a150 (by decide)
        have f167 := sm163.at f156 (by decide)
        have sm168 := sm157.tr (sm163.wide (by decide))
        cases q161 : tokF tn tv 5 (i + 2 + 3 * np) with
        | none =>
          rw [q161] at e160
          obtain ⟨e0, m164⟩ := e160
          cases e0
          obtain ⟨m169, m170, m171, m172, m173, m174, f175, tk176⟩ := m164
          have f175 : h159[36]? = some (cO 12 (MO ((x 0)) ((x 1)) ((x 2)) ((x 3)) ((nI tn)) m169 m170 m171 m172 m173 flt plc m174 tld7 ((x 4)) ((x 5)) ((x 6)) ((x 7)) ((x 8)) ((x 9)) ((x 10)) ((x 11)))) := f175
          have tk176 : TkM tn tv ((i + 2 + 3 * np) + 1) m169 m170 m171 m172 m173 m174 := tk176
          have kkq161 := tokE q161
          refine x_if_eq (tgt := 122) dX12_readFoam_106 (by decide) (fun c_106 => absurd c_106 (by decide)) (fun c_106 => ?_)
          refine x_aload_n dX12_readFoam_109 2 rfl ?_
          refine x_iload_n dX12_readFoam_110 1 rfl ?_
          refine x_iconst (v := 1) dX12_readFoam_111 (by decide) ?_
          refine x_iaddN (a := (4 + 20 * c.1)) (b := 1) dX12_readFoam_112 ?_
          refine x_iconst (v := 0) dX12_readFoam_113 (by decide) ?_
          refine x_bipush (v := 100) dX12_readFoam_114 (by decide) ?_
          refine x_callV (rf' := 3) (rl' := 67) [.int (nI ((4 + 20 * c.1) + 1)), .int 0, .int 100] [] dX12_readFoam_116 vX12_167 Y_X12_readInto f175 (by decide) rfl rfl (Nat.le_of_ble_eq_true rfl) (Nat.le_of_ble_eq_true rfl) (by decide) (by decide) (c_readInto (p := ((4 + 20 * c.1) + 1)) (a := 0) (b := 100) htn hv hmt tk176 f175 f165 f166 (by omega)) (fun r h177 e178 => ?_)
          obtain ⟨sm181, e178⟩ := e178
          have sm181 : Sm [36, 38] h159 h177 := sm181
          have f183 := sm181.at f165 (by decide)
          have f184 := sm181.at f167 (by decide)
          have sm185 := sm168.tr (sm181.wide (by decide))
          cases q179 : numF tn tv 0 100 ((i + 2 + 3 * np) + 1) with
          | none =>
            rw [q179] at e178
            obtain ⟨e0, m182, x186⟩ := e178
            cases e0
            obtain ⟨m187, m188, m189, m190, m191, m192, f193, tk194⟩ := m182
            have f193 : h177[36]? = some (cO 12 (MO ((x 0)) ((x 1)) ((x 2)) ((x 3)) ((nI tn)) m187 m188 m189 m190 m191 flt plc m192 ((nI (nv tn tv ((i + 2 + 3 * np) + 1)))) ((x 4)) ((x 5)) ((x 6)) ((x 7)) ((x 8)) ((x 9)) ((x 10)) ((x 11)))) := f193
            have tk194 : TkM tn tv ((i + 2 + 3 * np) + 2) m187 m188 m189 m190 m191 m192 := tk194
            have x186 : h177[38]? = some (cI 10164 ((upd ((upd bk7 (((484 * 20) + (4 + 20 * c.1))) ((nI np)))) (484 * 20 + (((4 + 20 * c.1) + 1))) (nI (nv tn tv ((i + 2 + 3 * np) + 1)))))) := x186
            have kkq179 := numE q179
            refine x_if_ne (tgt := 124) dX12_readFoam_119 (by decide) (fun c_119 => ?_) (fun c_119 => absurd c_119 (by decide))
            refine x_aload_n dX12_readFoam_124 2 rfl ?_
            refine x_bipush (v := 112) dX12_readFoam_125 (by decide) ?_
            refine x_bipush (v := 114) dX12_readFoam_127 (by decide) ?_
            refine x_bipush (v := 105) dX12_readFoam_129 (by decide) ?_
            refine x_bipush (v := 99) dX12_readFoam_131 (by decide) ?_
            refine x_bipush (v := 101) dX12_readFoam_133 (by decide) ?_
            refine x_callS (rf' := 0) (rl' := 0) [.int 112, .int 114, .int 105, .int 99, .int 101] [.ref 36] dX12_readFoam_135 vX12_109 Y_X12_spelt rfl rfl (Nat.le_of_ble_eq_true rfl) (Nat.le_of_ble_eq_true rfl) (by decide) (by decide) c_spelt6 (fun _ _ e195 => ?_)
            cases e195
            refine x_callV (rf' := 2) (rl' := 45) [.long (lN (k27 6))] [] dX12_readFoam_138 vX12_180 Y_X12_readKey f193 (by decide) rfl rfl (Nat.le_of_ble_eq_true rfl) (Nat.le_of_ble_eq_true rfl) (by decide) (by decide) (c_readKey (n := 6) (by decide) htn hv hmt tk194 f193 f183) (fun r h196 e197 => ?_)
            obtain ⟨sm200, e197⟩ := e197
            have sm200 : Sm [36] h177 h196 := sm200
            have f202 := sm200.at f183 (by decide)
            have f203 := sm200.at x186 (by decide)
            have f204 := sm200.at f184 (by decide)
            have sm205 := sm185.tr (sm200.wide (by decide))
            cases q198 : tokF tn tv 6 ((i + 2 + 3 * np) + 2) with
            | none =>
              rw [q198] at e197
              obtain ⟨e0, m201⟩ := e197
              cases e0
              obtain ⟨m206, m207, m208, m209, m210, m211, f212, tk213⟩ := m201
              have f212 : h196[36]? = some (cO 12 (MO ((x 0)) ((x 1)) ((x 2)) ((x 3)) ((nI tn)) m206 m207 m208 m209 m210 flt plc m211 ((nI (nv tn tv ((i + 2 + 3 * np) + 1)))) ((x 4)) ((x 5)) ((x 6)) ((x 7)) ((x 8)) ((x 9)) ((x 10)) ((x 11)))) := f212
              have tk213 : TkM tn tv ((i + 2 + 3 * np) + 3) m206 m207 m208 m209 m210 m211 := tk213
              have kkq198 := tokE q198
              refine x_if_eq (tgt := 157) dX12_readFoam_141 (by decide) (fun c_141 => absurd c_141 (by decide)) (fun c_141 => ?_)
              refine x_aload_n dX12_readFoam_144 2 rfl ?_
              refine x_iload_n dX12_readFoam_145 1 rfl ?_
              refine x_iconst (v := 2) dX12_readFoam_146 (by decide) ?_
              refine x_iaddN (a := (4 + 20 * c.1)) (b := 2) dX12_readFoam_147 ?_
              refine x_iconst (v := 0) dX12_readFoam_148 (by decide) ?_
              refine x_bipush (v := 100) dX12_readFoam_149 (by decide) ?_
              refine x_callV (rf' := 3) (rl' := 67) [.int (nI ((4 + 20 * c.1) + 2)), .int 0, .int 100] [] dX12_readFoam_151 vX12_167 Y_X12_readInto f212 (by decide) rfl rfl (Nat.le_of_ble_eq_true rfl) (Nat.le_of_ble_eq_true rfl) (by decide) (by decide) (c_readInto (p := ((4 + 20 * c.1) + 2)) (a := 0) (b := 100) htn hv hmt tk213 f212 f202 f203 (by omega)) (fun r h214 e215 => ?_)
              obtain ⟨sm218, e215⟩ := e215
              have sm218 : Sm [36, 38] h196 h214 := sm218
              have f220 := sm218.at f202 (by decide)
              have f221 := sm218.at f204 (by decide)
              have sm222 := sm205.tr (sm218.wide (by decide))
              cases q216 : numF tn tv 0 100 ((i + 2 + 3 * np) + 3) with
              | none =>
                rw [q216] at e215
                obtain ⟨e0, m219, x223⟩ := e215
                cases e0
                obtain ⟨m224, m225, m226, m227, m228, m229, f230, tk231⟩ := m219
                have f230 : h214[36]? = some (cO 12 (MO ((x 0)) ((x 1)) ((x 2)) ((x 3)) ((nI tn)) m224 m225 m226 m227 m228 flt plc m229 ((nI (nv tn tv ((i + 2 + 3 * np) + 3)))) ((x 4)) ((x 5)) ((x 6)) ((x 7)) ((x 8)) ((x 9)) ((x 10)) ((x 11)))) := f230
                have tk231 : TkM tn tv ((i + 2 + 3 * np) + 4) m224 m225 m226 m227 m228 m229 := tk231
                have x223 : h214[38]? = some (cI 10164 ((upd ((upd ((upd bk7 (((484 * 20) + (4 + 20 * c.1))) ((nI np)))) (484 * 20 + (((4 + 20 * c.1) + 1))) (nI (nv tn tv ((i + 2 + 3 * np) + 1))))) (484 * 20 + (((4 + 20 * c.1) + 2))) (nI (nv tn tv ((i + 2 + 3 * np) + 3)))))) := x223
                have kkq216 := numE q216
                refine x_if_ne (tgt := 159) dX12_readFoam_154 (by decide) (fun c_154 => ?_) (fun c_154 => absurd c_154 (by decide))
                refine x_aload_n dX12_readFoam_159 2 rfl ?_
                refine x_get (v := .ref 38) dX12_readFoam_160 fX12_13 f230 (by decide) rfl ?_
                refine x_bipush (v := 20) dX12_readFoam_163 (by decide) ?_
                refine x_callS (rf' := 0) (rl' := 0) [.int 20] [.ref 38] dX12_readFoam_165 vX12_154 Y_X12_at rfl rfl (Nat.le_of_ble_eq_true rfl) (Nat.le_of_ble_eq_true rfl) (by decide) (by decide) (c_at (b := 20)) (fun _ _ e232 => ?_)
                cases e232
                refine x_dup2 dX12_readFoam_168 rfl rfl ?_
                refine x_ialdN (i := (484 * 20)) dX12_readFoam_169 x223 (by decide) (by omega) (by decide) ?_
                rw [show (((upd ((upd ((upd bk7 (((484 * 20) + (4 + 20 * c.1))) ((nI np)))) (484 * 20 + (((4 + 20 * c.1) + 1))) (nI (nv tn tv ((i + 2 + 3 * np) + 1))))) (484 * 20 + (((4 + 20 * c.1) + 2))) (nI (nv tn tv ((i + 2 + 3 * np) + 3))))) ((484 * 20))) = nI (c.1) from (by rw [pk_un (by omega), pk_un (by omega), pk_un (by omega), ho _ (by omega)]; exact hRs 0 (by decide))]
                refine x_iconst (v := 1) dX12_readFoam_170 (by decide) ?_
                refine x_iaddN (a := (c.1)) (b := 1) dX12_readFoam_171 ?_
                refine x_iastN (i := (484 * 20)) dX12_readFoam_172 x223 (by decide) (by omega) (by decide) (fun h233 a234 e235 l236 s237 => ?_)
                have f238 := (e235 36 (by decide)).trans f230
                have f239 := (e235 37 (by decide)).trans f220
                have f240 := (e235 40 (by decide)).trans f221
                have sm241 := Sm.put sm222 e235 l236 s237 (by decide)
                refine x_iconst (v := 1) dX12_readFoam_173 (by decide) ?_
                exact x_zret dX12_readFoam_174 rfl rfl ⟨sm241, by rw [show fomF tn tv nl c.1 i = none by unfold fomF; rw [if_neg (by omega), q120, hp]; show ((numOfF tn tv 5 0 100 (i + 2 + 3 * np)).or (numOfF tn tv 6 0 100 (i + 4 + 3 * np))) = _; rw [show i + 4 + 3 * np = i + 2 + 3 * np + 2 by omega]; unfold numOfF; rw [q161, q179, q198, q216]; rfl]; rw [hN9, show i + 6 + 3 * np = i + 2 + 3 * np + 4 by omega]; exact ⟨rfl, ⟨_, ⟨_, _, _, _, _, _, f238, tk231⟩⟩, ⟨_, a234, fun j hj => by rw [pk_un (by omega)]; rw [pk_un (by omega)]; rw [pk_un (by omega)]; rw [pk_un (by omega)]; exact ho _ (by omega), fom_cong hR hN9 hp8 hg ho⟩, ⟨_, f240, x128⟩⟩⟩
              | some fl217 =>
                rw [q216] at e215
                obtain ⟨e0, m219, sx242⟩ := e215
                cases e0
                have sx242 : Sm [36] h196 h214 := sx242
                have f243 := sx242.at f203 (by decide)
                have f244 := sx242.at f204 (by decide)
                refine x_if_ne (tgt := 159) dX12_readFoam_154 (by decide) (fun c_154 => absurd (by decide) c_154) (fun c_154 => ?_)
                refine x_iconst (v := 0) dX12_readFoam_157 (by decide) ?_
                exact x_zret dX12_readFoam_158 rfl rfl ⟨sm222, by rw [show fomF tn tv nl c.1 i = some fl217 by unfold fomF; rw [if_neg (by omega), q120, hp]; show ((numOfF tn tv 5 0 100 (i + 2 + 3 * np)).or (numOfF tn tv 6 0 100 (i + 4 + 3 * np))) = _; rw [show i + 4 + 3 * np = i + 2 + 3 * np + 2 by omega]; unfold numOfF; rw [q161, q179, q198, q216]; rfl]; exact ⟨rfl, m219, ⟨_, f243, fun j hj => by rw [pk_un (by omega)]; rw [pk_un (by omega)]; exact ho _ (by omega)⟩, ⟨_, f244⟩⟩⟩
            | some fl199 =>
              rw [q198] at e197
              obtain ⟨e0, m201⟩ := e197
              cases e0
              refine x_if_eq (tgt := 157) dX12_readFoam_141 (by decide) (fun c_141 => ?_) (fun c_141 => absurd (by decide) c_141)
              refine x_iconst (v := 0) dX12_readFoam_157 (by decide) ?_
              exact x_zret dX12_readFoam_158 rfl rfl ⟨sm205, by rw [show fomF tn tv nl c.1 i = some fl199 by unfold fomF; rw [if_neg (by omega), q120, hp]; show ((numOfF tn tv 5 0 100 (i + 2 + 3 * np)).or (numOfF tn tv 6 0 100 (i + 4 + 3 * np))) = _; rw [show i + 4 + 3 * np = i + 2 + 3 * np + 2 by omega]; unfold numOfF; rw [q161, q179, q198]; rfl]; exact ⟨rfl, m201, ⟨_, f203, fun j hj => by rw [pk_un (by omega)]; rw [pk_un (by omega)]; exact ho _ (by omega)⟩, ⟨_, f204⟩⟩⟩
          | some fl180 =>
            rw [q179] at e178
            obtain ⟨e0, m182, sx246⟩ := e178
            cases e0
            have sx246 : Sm [36] h159 h177 := sx246
            have f247 := sx246.at f166 (by decide)
            have f248 := sx246.at f167 (by decide)
            refine x_if_ne (tgt := 124) dX12_readFoam_119 (by decide) (fun c_119 => absurd (by decide) c_119) (fun c_119 => ?_)
            refine x_iconst (v := 0) dX12_readFoam_122 (by decide) ?_
            exact x_zret dX12_readFoam_123 rfl rfl ⟨sm185, by rw [show fomF tn tv nl c.1 i = some fl180 by unfold fomF; rw [if_neg (by omega), q120, hp]; show ((numOfF tn tv 5 0 100 (i + 2 + 3 * np)).or (numOfF tn tv 6 0 100 (i + 4 + 3 * np))) = _; rw [show i + 4 + 3 * np = i + 2 + 3 * np + 2 by omega]; unfold numOfF; rw [q161, q179]; rfl]; exact ⟨rfl, m182, ⟨_, f247, fun j hj => by rw [pk_un (by omega)]; exact ho _ (by omega)⟩, ⟨_, f248⟩⟩⟩
        | some fl162 =>
          rw [q161] at e160
          obtain ⟨e0, m164⟩ := e160
          cases e0
          refine x_if_eq (tgt := 122) dX12_readFoam_106 (by decide) (fun c_106 => ?_) (fun c_106 => absurd (by decide) c_106)
          refine x_iconst (v := 0) dX12_readFoam_122 (by decide) ?_
          exact x_zret dX12_readFoam_123 rfl rfl ⟨sm168, by rw [show fomF tn tv nl c.1 i = some fl162 by unfold fomF; rw [if_neg (by omega), q120, hp]; show ((numOfF tn tv 5 0 100 (i + 2 + 3 * np)).or (numOfF tn tv 6 0 100 (i + 4 + 3 * np))) = _; rw [show i + 4 + 3 * np = i + 2 + 3 * np + 2 by omega]; unfold numOfF; rw [q161]; rfl]; exact ⟨rfl, m164, ⟨_, f166, fun j hj => by rw [pk_un (by omega)]; exact ho _ (by omega)⟩, ⟨_, f167⟩⟩⟩
      · refine ⟨sm126.tr (sm7.wide (by decide)), ?_⟩
        rw [show fomF tn tv nl c.1 i = some f by unfold fomF; rw [if_neg (by omega), q120, hp]; rfl]
        exact ⟨rfl, mb, rg, _, sm7.at x127 (by decide)⟩
    | some fl121 =>
      rw [q120] at e119
      obtain ⟨e0, m123, sx250⟩ := e119
      cases e0
      have sx250 : Sm [36] h102 h118 := sx250
      have f251 := sx250.at f107 (by decide)
      have f252 := sx250.at f108 (by decide)
      refine x_if_ne (tgt := 37) dX12_readFoam_32 (by decide) (fun c_32 => absurd (by decide) c_32) (fun c_32 => ?_)
      refine x_iconst (v := 0) dX12_readFoam_35 (by decide) ?_
      exact x_zret dX12_readFoam_36 rfl rfl ⟨sm126, by rw [show fomF tn tv nl c.1 i = some fl121 by unfold fomF; rw [if_neg (by omega), q120]; rfl]; exact ⟨rfl, m123, ⟨_, f251, fun j hj => rfl⟩, ⟨_, f252⟩⟩⟩
  · refine x_aload_n dX12_readFoam_17 1 rfl ?_
    refine x_iconst (v := 4) dX12_readFoam_18 (by decide) ?_
    refine x_callV (rf' := 0) (rl' := 0) [.int 4] [] dX12_readFoam_19 vX12_145 Y_X12_bad f36 (by decide) rfl rfl (Nat.le_of_ble_eq_true rfl) (Nat.le_of_ble_eq_true rfl) (by decide) (by decide) (c_bad (k := 4) htn hv hmt tk f36 f37 (fun z => by have := tk.k1 z; omega)) (fun r h253 e254 => ?_)
    obtain ⟨sm255, e0, m256⟩ := e254
    cases e0
    have sm255 : Sm [36] h h253 := sm255
    have f257 := sm255.at f37 (by decide)
    have f258 := sm255.at f38 (by decide)
    have f259 := sm255.at f40 (by decide)
    have sm260 := sm0.tr (sm255.wide (by decide))
    exact x_zret dX12_readFoam_22 rfl rfl ⟨sm260, by rw [show fomF tn tv nl c.1 i = some (4, i) by unfold fomF; rw [if_pos (by omega)]]; exact ⟨rfl, m256, ⟨_, f258, fun j hj => rfl⟩, ⟨_, f259⟩⟩⟩

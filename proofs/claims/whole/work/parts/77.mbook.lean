set_option maxRecDepth 100000 in
set_option maxHeartbeats 4000000 in
theorem m_readLine {G : GT} {h : List PE} {tn : Nat} {tv : Nat → Nat} {mtp : Nat → Int32} {flt plc tld too frm knd num sgn : Int32} {wrd : Int64} {x : Nat → Int32} {s : SG} (htn : tn ≤ 640) (hv : ∀ j, j < tn → tv j < 256) (hmt : ∀ j, j < tn → mtp j = nI (tv j)) (tk : TkM tn tv s.1 too frm knd num sgn wrd) {bk : Nat → Int32} {nm : Nat → Int64} (f36 : h[36]? = some (cO 12 (MO ((x 0)) ((x 1)) ((x 2)) ((x 3)) ((nI tn)) too frm knd num sgn flt plc wrd tld ((x 4)) ((x 5)) ((x 6)) ((x 7)) ((x 8)) ((x 9)) ((x 10)) ((x 11))))) (f37 : h[37]? = some (cI 640 mtp)) (f38 : h[38]? = some (cI 10164 bk)) (f40 : h[40]? = some (cJ 24 nm)) (hR : ∀ j, j < 484 → bk (484 * 20 + j) = s.2.2.2 j) (hnp : NmP nm s.2.1 s.2.2.1) (hs : SgOk s)  : CT G mX12_readLine 6 136 [.ref 36] h (fun o => Sm [36, 38, 40] h o.2 ∧ match (lnF tn tv s).or (tokF tn tv 19 (lnS tn tv s).1) with | some f => o.1 = some (.int 0) ∧ MBd o.2 tn tv x f ∧ RgB o.2 bk ∧ NmB o.2 | none => o.1 = some (.int 1) ∧ (∃ tld : Int32, MRd o.2 tn tv ((lnS tn tv s).1 + 1) x flt plc tld) ∧ Rg o.2 bk (lnS tn tv s).2.2.2 ∧ Nmm o.2 (lnS tn tv s).2.1 (lnS tn tv s).2.2.1) := by
  have sm0 : Sm [36, 38, 40] h h := Sm.rf
  show X (NF G) G mX12_readLine 6 136 0 [(0, .ref 36)] [] h _
  refine x_aload_n dX12_readLine_0 0 rfl ?_
  refine x_callV (rf' := 1) (rl' := 26) [] [] dX12_readLine_1 vX12_119 Y_X12_isFoam f36 (by decide) rfl rfl (Nat.le_of_ble_eq_true rfl) (Nat.le_of_ble_eq_true rfl) (by decide) (by decide) (c_isFoam htn hv hmt tk f36 f37) (fun _ _ e101 => ?_)
  cases e101
  by_cases k102 : kd tn tv s.1 = 0
  · rw [if_pos k102]
    refine x_if_eq (tgt := 14) dX12_readLine_4 (by decide) (fun c_4 => absurd c_4 (by decide)) (fun c_4 => ?_)
    refine x_aload_n dX12_readLine_7 0 rfl ?_
    refine x_callV (rf' := 5) (rl' := 113) [] [] dX12_readLine_8 vX12_186 Y_X12_readFoam f36 (by decide) rfl rfl (Nat.le_of_ble_eq_true rfl) (Nat.le_of_ble_eq_true rfl) (by decide) (by decide) (m_readFoam (i := s.1) (nl := s.2.1) (c := s.2.2.1) (R := s.2.2.2) htn hv hmt tk f36 f37 f38 f40 hR hnp hs.1 hs.2 k102) (fun r h103 e104 => ?_)
    obtain ⟨sm1, e9⟩ := e104
    have sm1 : Sm [36, 38, 40] h h103 := sm1
    cases q : fomF tn tv s.2.1 s.2.2.1.1 s.1 with
    | some f =>
      rw [q] at e9
      obtain ⟨e0, e2⟩ := e9
      cases e0
      have eF : lnF tn tv s = some f := by unfold lnF; rw [if_pos k102]; exact q
      refine x_goto (tgt := 75) dX12_readLine_11 (by decide) ?_
      refine x_istore_n (lv2 := [(1, .int 0), (0, .ref 36)]) dX12_readLine_75 (by decide) rfl ?_
      refine x_iload_n dX12_readLine_76 0 rfl ?_
      refine x_if_ne (tgt := 82) dX12_readLine_77 (by decide) (fun c_77 => absurd (by decide) c_77) (fun c_77 => ?_)
      refine x_iconst (v := 0) dX12_readLine_80 (by decide) ?_
      exact x_zret dX12_readLine_81 rfl rfl ⟨sm1, by rw [show (lnF tn tv s).or (tokF tn tv 19 (lnS tn tv s).1) = some f by rw [eF]; rfl]; exact ⟨rfl, e2⟩⟩
    | none =>
      rw [q] at e9
      obtain ⟨e0, ⟨tld2, hM2⟩, rg, nmm⟩ := e9
      cases e0
      have eF : lnF tn tv s = none := by unfold lnF; rw [if_pos k102]; exact q
      have hM3 : MRd h103 tn tv (lnS tn tv s).1 x flt plc tld2 := by unfold lnS; rw [if_pos k102]; exact hM2
      have rg : Rg h103 bk (lnS tn tv s).2.2.2 := by unfold lnS; rw [if_pos k102]; exact rg
      have nmm : Nmm h103 (lnS tn tv s).2.1 (lnS tn tv s).2.2.1 := by unfold lnS; rw [if_pos k102]; exact nmm
      obtain ⟨bk2, b38, b1, b2⟩ := id rg
      obtain ⟨nm2, b40, b3⟩ := id nmm
      have g37 := sm1.at f37 (by decide)
      obtain ⟨m105, m106, m107, m108, m109, m110, f111, tk112⟩ := hM3
      have f111 : h103[36]? = some (cO 12 (MO ((x 0)) ((x 1)) ((x 2)) ((x 3)) ((nI tn)) m105 m106 m107 m108 m109 flt plc m110 tld2 ((x 4)) ((x 5)) ((x 6)) ((x 7)) ((x 8)) ((x 9)) ((x 10)) ((x 11)))) := f111
      have tk112 : TkM tn tv (lnS tn tv s).1 m105 m106 m107 m108 m109 m110 := tk112
      refine x_goto (tgt := 75) dX12_readLine_11 (by decide) ?_
      refine x_istore_n (lv2 := [(1, .int 1), (0, .ref 36)]) dX12_readLine_75 (by decide) rfl ?_
      refine x_iload_n dX12_readLine_76 0 rfl ?_
      refine x_if_ne (tgt := 82) dX12_readLine_77 (by decide) (fun c_77 => ?_) (fun c_77 => absurd c_77 (by decide))
      refine x_aload_n dX12_readLine_82 1 rfl ?_
      refine x_bipush (v := 59) dX12_readLine_83 (by decide) ?_
      refine x_callV (rf' := 0) (rl' := 0) [.int 59] [] dX12_readLine_85 vX12_170 Y_X12_isSign f111 (by decide) rfl rfl (Nat.le_of_ble_eq_true rfl) (Nat.le_of_ble_eq_true rfl) (by decide) (by decide) (c_isSign19 htn hv hmt tk112 f111 g37) (fun _ _ e113 => ?_)
      cases e113
      by_cases k114 : kd tn tv (lnS tn tv s).1 = 19
      · rw [if_pos k114]
        refine x_if_ne (tgt := 97) dX12_readLine_88 (by decide) (fun c_88 => ?_) (fun c_88 => absurd c_88 (by decide))
        refine x_aload_n dX12_readLine_97 1 rfl ?_
        refine x_callV (rf' := 1) (rl' := 21) [] [] dX12_readLine_98 vX12_148 Y_X12_go f111 (by decide) rfl rfl (Nat.le_of_ble_eq_true rfl) (Nat.le_of_ble_eq_true rfl) (by decide) (by decide) (c_goN htn hv hmt tk112 f111 g37 (by omega)) (fun r h115 e116 => ?_)
        obtain ⟨e0, m118, sm117⟩ := e116
        cases e0
        have sm117 : Sm [36] h103 h115 := sm117
        have f119 := sm117.at g37 (by decide)
        have f120 := sm117.at b38 (by decide)
        have f121 := sm117.at b40 (by decide)
        have sm122 := sm1.tr (sm117.wide (by decide))
        obtain ⟨m123, m124, m125, m126, m127, m128, f129, tk130⟩ := m118
        have f129 : h115[36]? = some (cO 12 (MO ((x 0)) ((x 1)) ((x 2)) ((x 3)) ((nI tn)) m123 m124 m125 m126 m127 flt plc m128 tld2 ((x 4)) ((x 5)) ((x 6)) ((x 7)) ((x 8)) ((x 9)) ((x 10)) ((x 11)))) := f129
        have tk130 : TkM tn tv ((lnS tn tv s).1 + 1) m123 m124 m125 m126 m127 m128 := tk130
        refine x_iconst (v := 1) dX12_readLine_101 (by decide) ?_
        exact x_zret dX12_readLine_102 rfl rfl ⟨sm122, by rw [show (lnF tn tv s).or (tokF tn tv 19 (lnS tn tv s).1) = none by rw [eF, show tokF tn tv 19 (lnS tn tv s).1 = none from if_pos k114]; rfl]; exact ⟨rfl, ⟨_, ⟨_, _, _, _, _, _, f129, tk130⟩⟩, ⟨_, f120, b1, b2⟩, ⟨_, f121, b3⟩⟩⟩
      · rw [if_neg k114]
        refine x_if_ne (tgt := 97) dX12_readLine_88 (by decide) (fun c_88 => absurd (by decide) c_88) (fun c_88 => ?_)
        refine x_aload_n dX12_readLine_91 1 rfl ?_
        refine x_iconst (v := 1) dX12_readLine_92 (by decide) ?_
        refine x_callV (rf' := 0) (rl' := 0) [.int 1] [] dX12_readLine_93 vX12_145 Y_X12_bad f111 (by decide) rfl rfl (Nat.le_of_ble_eq_true rfl) (Nat.le_of_ble_eq_true rfl) (by decide) (by decide) (c_bad (k := 1) htn hv hmt tk112 f111 g37 (fun _ => rfl)) (fun r h131 e132 => ?_)
        obtain ⟨sm133, e0, m134⟩ := e132
        cases e0
        have sm133 : Sm [36] h103 h131 := sm133
        have f135 := sm133.at g37 (by decide)
        have f136 := sm133.at b38 (by decide)
        have f137 := sm133.at b40 (by decide)
        have sm138 := sm1.tr (sm133.wide (by decide))
        exact x_zret dX12_readLine_96 rfl rfl ⟨sm138, by rw [show (lnF tn tv s).or (tokF tn tv 19 (lnS tn tv s).1) = some (1, (lnS tn tv s).1) by rw [eF, show tokF tn tv 19 (lnS tn tv s).1 = some (1, (lnS tn tv s).1) from if_neg k114]; rfl]; exact ⟨rfl, m134, ⟨_, f136, b1⟩, ⟨_, f137⟩⟩⟩
  · rw [if_neg k102]
    refine x_if_eq (tgt := 14) dX12_readLine_4 (by decide) (fun c_4 => ?_) (fun c_4 => absurd (by decide) c_4)
    refine x_aload_n dX12_readLine_14 0 rfl ?_
    refine x_callV (rf' := 1) (rl' := 26) [] [] dX12_readLine_15 vX12_123 Y_X12_isThing f36 (by decide) rfl rfl (Nat.le_of_ble_eq_true rfl) (Nat.le_of_ble_eq_true rfl) (by decide) (by decide) (c_isThing htn hv hmt tk f36 f37) (fun _ _ e139 => ?_)
    cases e139
    by_cases k140 : kd tn tv s.1 = 1
    · rw [if_pos k140]
      refine x_if_eq (tgt := 28) dX12_readLine_18 (by decide) (fun c_18 => absurd c_18 (by decide)) (fun c_18 => ?_)
      refine x_aload_n dX12_readLine_21 0 rfl ?_
      refine x_callV (rf' := 4) (rl' := 90) [] [] dX12_readLine_22 vX12_189 Y_X12_readThing f36 (by decide) rfl rfl (Nat.le_of_ble_eq_true rfl) (Nat.le_of_ble_eq_true rfl) (by decide) (by decide) (m_readThing (i := s.1) (nl := s.2.1) (c := s.2.2.1) (R := s.2.2.2) htn hv hmt tk f36 f37 f38 f40 hR hnp hs.1 hs.2 k140) (fun r h141 e142 => ?_)
      obtain ⟨sm1, e9⟩ := e142
      have sm1 : Sm [36, 38, 40] h h141 := sm1
      cases q : thgF tn tv s.2.1 s.2.2.1.2.1 s.1 with
      | some f =>
        rw [q] at e9
        obtain ⟨e0, e2⟩ := e9
        cases e0
        have eF : lnF tn tv s = some f := by unfold lnF; rw [if_neg k102, if_pos k140]; exact q
        refine x_goto (tgt := 75) dX12_readLine_25 (by decide) ?_
        refine x_istore_n (lv2 := [(1, .int 0), (0, .ref 36)]) dX12_readLine_75 (by decide) rfl ?_
        refine x_iload_n dX12_readLine_76 0 rfl ?_
        refine x_if_ne (tgt := 82) dX12_readLine_77 (by decide) (fun c_77 => absurd (by decide) c_77) (fun c_77 => ?_)
        refine x_iconst (v := 0) dX12_readLine_80 (by decide) ?_
        exact x_zret dX12_readLine_81 rfl rfl ⟨sm1, by rw [show (lnF tn tv s).or (tokF tn tv 19 (lnS tn tv s).1) = some f by rw [eF]; rfl]; exact ⟨rfl, e2⟩⟩
      | none =>
        rw [q] at e9
        obtain ⟨e0, ⟨tld2, hM2⟩, rg, nmm⟩ := e9
        cases e0
        have eF : lnF tn tv s = none := by unfold lnF; rw [if_neg k102, if_pos k140]; exact q
        have hM3 : MRd h141 tn tv (lnS tn tv s).1 x flt plc tld2 := by unfold lnS; rw [if_neg k102, if_pos k140]; exact hM2
        have rg : Rg h141 bk (lnS tn tv s).2.2.2 := by unfold lnS; rw [if_neg k102, if_pos k140]; exact rg
        have nmm : Nmm h141 (lnS tn tv s).2.1 (lnS tn tv s).2.2.1 := by unfold lnS; rw [if_neg k102, if_pos k140]; exact nmm
        obtain ⟨bk2, b38, b1, b2⟩ := id rg
        obtain ⟨nm2, b40, b3⟩ := id nmm
        have g37 := sm1.at f37 (by decide)
        obtain ⟨m143, m144, m145, m146, m147, m148, f149, tk150⟩ := hM3
        have f149 : h141[36]? = some (cO 12 (MO ((x 0)) ((x 1)) ((x 2)) ((x 3)) ((nI tn)) m143 m144 m145 m146 m147 flt plc m148 tld2 ((x 4)) ((x 5)) ((x 6)) ((x 7)) ((x 8)) ((x 9)) ((x 10)) ((x 11)))) := f149
        have tk150 : TkM tn tv (lnS tn tv s).1 m143 m144 m145 m146 m147 m148 := tk150
        refine x_goto (tgt := 75) dX12_readLine_25 (by decide) ?_
        refine x_istore_n (lv2 := [(1, .int 1), (0, .ref 36)]) dX12_readLine_75 (by decide) rfl ?_
        refine x_iload_n dX12_readLine_76 0 rfl ?_
        refine x_if_ne (tgt := 82) dX12_readLine_77 (by decide) (fun c_77 => ?_) (fun c_77 => absurd c_77 (by decide))
        refine x_aload_n dX12_readLine_82 1 rfl ?_
        refine x_bipush (v := 59) dX12_readLine_83 (by decide) ?_
        refine x_callV (rf' := 0) (rl' := 0) [.int 59] [] dX12_readLine_85 vX12_170 Y_X12_isSign f149 (by decide) rfl rfl (Nat.le_of_ble_eq_true rfl) (Nat.le_of_ble_eq_true rfl) (by decide) (by decide) (c_isSign19 htn hv hmt tk150 f149 g37) (fun _ _ e151 => ?_)
        cases e151
        by_cases k152 : kd tn tv (lnS tn tv s).1 = 19
        · rw [if_pos k152]
          refine x_if_ne (tgt := 97) dX12_readLine_88 (by decide) (fun c_88 => ?_) (fun c_88 => absurd c_88 (by decide))
          refine x_aload_n dX12_readLine_97 1 rfl ?_
          refine x_callV (rf' := 1) (rl' := 21) [] [] dX12_readLine_98 vX12_148 Y_X12_go f149 (by decide) rfl rfl (Nat.le_of_ble_eq_true rfl) (Nat.le_of_ble_eq_true rfl) (by decide) (by decide) (c_goN htn hv hmt tk150 f149 g37 (by omega)) (fun r h153 e154 => ?_)
          obtain ⟨e0, m156, sm155⟩ := e154
          cases e0
          have sm155 : Sm [36] h141 h153 := sm155
          have f157 := sm155.at g37 (by decide)
          have f158 := sm155.at b38 (by decide)
          have f159 := sm155.at b40 (by decide)
          have sm160 := sm1.tr (sm155.wide (by decide))
          obtain ⟨m161, m162, m163, m164, m165, m166, f167, tk168⟩ := m156
          have f167 : h153[36]? = some (cO 12 (MO ((x 0)) ((x 1)) ((x 2)) ((x 3)) ((nI tn)) m161 m162 m163 m164 m165 flt plc m166 tld2 ((x 4)) ((x 5)) ((x 6)) ((x 7)) ((x 8)) ((x 9)) ((x 10)) ((x 11)))) := f167
          have tk168 : TkM tn tv ((lnS tn tv s).1 + 1) m161 m162 m163 m164 m165 m166 := tk168
          refine x_iconst (v := 1) dX12_readLine_101 (by decide) ?_
          exact x_zret dX12_readLine_102 rfl rfl ⟨sm160, by rw [show (lnF tn tv s).or (tokF tn tv 19 (lnS tn tv s).1) = none by rw [eF, show tokF tn tv 19 (lnS tn tv s).1 = none from if_pos k152]; rfl]; exact ⟨rfl, ⟨_, ⟨_, _, _, _, _, _, f167, tk168⟩⟩, ⟨_, f158, b1, b2⟩, ⟨_, f159, b3⟩⟩⟩
        · rw [if_neg k152]
          refine x_if_ne (tgt := 97) dX12_readLine_88 (by decide) (fun c_88 => absurd (by decide) c_88) (fun c_88 => ?_)
          refine x_aload_n dX12_readLine_91 1 rfl ?_
          refine x_iconst (v := 1) dX12_readLine_92 (by decide) ?_
          refine x_callV (rf' := 0) (rl' := 0) [.int 1] [] dX12_readLine_93 vX12_145 Y_X12_bad f149 (by decide) rfl rfl (Nat.le_of_ble_eq_true rfl) (Nat.le_of_ble_eq_true rfl) (by decide) (by decide) (c_bad (k := 1) htn hv hmt tk150 f149 g37 (fun _ => rfl)) (fun r h169 e170 => ?_)
          obtain ⟨sm171, e0, m172⟩ := e170
          cases e0
          have sm171 : Sm [36] h141 h169 := sm171
          have f173 := sm171.at g37 (by decide)
          have f174 := sm171.at b38 (by decide)
          have f175 := sm171.at b40 (by decide)
          have sm176 := sm1.tr (sm171.wide (by decide))
          exact x_zret dX12_readLine_96 rfl rfl ⟨sm176, by rw [show (lnF tn tv s).or (tokF tn tv 19 (lnS tn tv s).1) = some (1, (lnS tn tv s).1) by rw [eF, show tokF tn tv 19 (lnS tn tv s).1 = some (1, (lnS tn tv s).1) from if_neg k152]; rfl]; exact ⟨rfl, m172, ⟨_, f174, b1⟩, ⟨_, f175⟩⟩⟩
    · rw [if_neg k140]
      refine x_if_eq (tgt := 28) dX12_readLine_18 (by decide) (fun c_18 => ?_) (fun c_18 => absurd (by decide) c_18)
      refine x_aload_n dX12_readLine_28 0 rfl ?_
      refine x_callV (rf' := 1) (rl' := 26) [] [] dX12_readLine_29 vX12_126 Y_X12_isBox f36 (by decide) rfl rfl (Nat.le_of_ble_eq_true rfl) (Nat.le_of_ble_eq_true rfl) (by decide) (by decide) (c_isBox htn hv hmt tk f36 f37) (fun _ _ e177 => ?_)
      cases e177
      by_cases k178 : kd tn tv s.1 = 2
      · rw [if_pos k178]
        refine x_if_eq (tgt := 42) dX12_readLine_32 (by decide) (fun c_32 => absurd c_32 (by decide)) (fun c_32 => ?_)
        refine x_aload_n dX12_readLine_35 0 rfl ?_
        refine x_callV (rf' := 4) (rl' := 90) [] [] dX12_readLine_36 vX12_192 Y_X12_readBox f36 (by decide) rfl rfl (Nat.le_of_ble_eq_true rfl) (Nat.le_of_ble_eq_true rfl) (by decide) (by decide) (m_readBox (i := s.1) (nl := s.2.1) (c := s.2.2.1) (R := s.2.2.2) htn hv hmt tk f36 f37 f38 f40 hR hnp hs.1 hs.2 k178) (fun r h179 e180 => ?_)
        obtain ⟨sm1, e9⟩ := e180
        have sm1 : Sm [36, 38, 40] h h179 := sm1
        cases q : boxF tn tv s.2.1 s.2.2.1.2.2.1 s.1 with
        | some f =>
          rw [q] at e9
          obtain ⟨e0, e2⟩ := e9
          cases e0
          have eF : lnF tn tv s = some f := by unfold lnF; rw [if_neg k102, if_neg k140, if_pos k178]; exact q
          refine x_goto (tgt := 75) dX12_readLine_39 (by decide) ?_
          refine x_istore_n (lv2 := [(1, .int 0), (0, .ref 36)]) dX12_readLine_75 (by decide) rfl ?_
          refine x_iload_n dX12_readLine_76 0 rfl ?_
          refine x_if_ne (tgt := 82) dX12_readLine_77 (by decide) (fun c_77 => absurd (by decide) c_77) (fun c_77 => ?_)
          refine x_iconst (v := 0) dX12_readLine_80 (by decide) ?_
          exact x_zret dX12_readLine_81 rfl rfl ⟨sm1, by rw [show (lnF tn tv s).or (tokF tn tv 19 (lnS tn tv s).1) = some f by rw [eF]; rfl]; exact ⟨rfl, e2⟩⟩
        | none =>
          rw [q] at e9
          obtain ⟨e0, ⟨tld2, hM2⟩, rg, nmm⟩ := e9
          cases e0
          have eF : lnF tn tv s = none := by unfold lnF; rw [if_neg k102, if_neg k140, if_pos k178]; exact q
          have hM3 : MRd h179 tn tv (lnS tn tv s).1 x flt plc tld2 := by unfold lnS; rw [if_neg k102, if_neg k140, if_pos k178]; exact hM2
          have rg : Rg h179 bk (lnS tn tv s).2.2.2 := by unfold lnS; rw [if_neg k102, if_neg k140, if_pos k178]; exact rg
          have nmm : Nmm h179 (lnS tn tv s).2.1 (lnS tn tv s).2.2.1 := by unfold lnS; rw [if_neg k102, if_neg k140, if_pos k178]; exact nmm
          obtain ⟨bk2, b38, b1, b2⟩ := id rg
          obtain ⟨nm2, b40, b3⟩ := id nmm
          have g37 := sm1.at f37 (by decide)
          obtain ⟨m181, m182, m183, m184, m185, m186, f187, tk188⟩ := hM3
          have f187 : h179[36]? = some (cO 12 (MO ((x 0)) ((x 1)) ((x 2)) ((x 3)) ((nI tn)) m181 m182 m183 m184 m185 flt plc m186 tld2 ((x 4)) ((x 5)) ((x 6)) ((x 7)) ((x 8)) ((x 9)) ((x 10)) ((x 11)))) := f187
          have tk188 : TkM tn tv (lnS tn tv s).1 m181 m182 m183 m184 m185 m186 := tk188
          refine x_goto (tgt := 75) dX12_readLine_39 (by decide) ?_
          refine x_istore_n (lv2 := [(1, .int 1), (0, .ref 36)]) dX12_readLine_75 (by decide) rfl ?_
          refine x_iload_n dX12_readLine_76 0 rfl ?_
          refine x_if_ne (tgt := 82) dX12_readLine_77 (by decide) (fun c_77 => ?_) (fun c_77 => absurd c_77 (by decide))
          refine x_aload_n dX12_readLine_82 1 rfl ?_
          refine x_bipush (v := 59) dX12_readLine_83 (by decide) ?_
          refine x_callV (rf' := 0) (rl' := 0) [.int 59] [] dX12_readLine_85 vX12_170 Y_X12_isSign f187 (by decide) rfl rfl (Nat.le_of_ble_eq_true rfl) (Nat.le_of_ble_eq_true rfl) (by decide) (by decide) (c_isSign19 htn hv hmt tk188 f187 g37) (fun _ _ e189 => ?_)
          cases e189
          by_cases k190 : kd tn tv (lnS tn tv s).1 = 19
          · rw [if_pos k190]
            refine x_if_ne (tgt := 97) dX12_readLine_88 (by decide) (fun c_88 => ?_) (fun c_88 => absurd c_88 (by decide))
            refine x_aload_n dX12_readLine_97 1 rfl ?_
            refine x_callV (rf' := 1) (rl' := 21) [] [] dX12_readLine_98 vX12_148 Y_X12_go f187 (by decide) rfl rfl (Nat.le_of_ble_eq_true rfl) (Nat.le_of_ble_eq_true rfl) (by decide) (by decide) (c_goN htn hv hmt tk188 f187 g37 (by omega)) (fun r h191 e192 => ?_)
            obtain ⟨e0, m194, sm193⟩ := e192
            cases e0
            have sm193 : Sm [36] h179 h191 := sm193
            have f195 := sm193.at g37 (by decide)
            have f196 := sm193.at b38 (by decide)
            have f197 := sm193.at b40 (by decide)
            have sm198 := sm1.tr (sm193.wide (by decide))
            obtain ⟨m199, m200, m201, m202, m203, m204, f205, tk206⟩ := m194
            have f205 : h191[36]? = some (cO 12 (MO ((x 0)) ((x 1)) ((x 2)) ((x 3)) ((nI tn)) m199 m200 m201 m202 m203 flt plc m204 tld2 ((x 4)) ((x 5)) ((x 6)) ((x 7)) ((x 8)) ((x 9)) ((x 10)) ((x 11)))) := f205
            have tk206 : TkM tn tv ((lnS tn tv s).1 + 1) m199 m200 m201 m202 m203 m204 := tk206
            refine x_iconst (v := 1) dX12_readLine_101 (by decide) ?_
            exact x_zret dX12_readLine_102 rfl rfl ⟨sm198, by rw [show (lnF tn tv s).or (tokF tn tv 19 (lnS tn tv s).1) = none by rw [eF, show tokF tn tv 19 (lnS tn tv s).1 = none from if_pos k190]; rfl]; exact ⟨rfl, ⟨_, ⟨_, _, _, _, _, _, f205, tk206⟩⟩, ⟨_, f196, b1, b2⟩, ⟨_, f197, b3⟩⟩⟩
          · rw [if_neg k190]
            refine x_if_ne (tgt := 97) dX12_readLine_88 (by decide) (fun c_88 => absurd (by decide) c_88) (fun c_88 => ?_)
            refine x_aload_n dX12_readLine_91 1 rfl ?_
            refine x_iconst (v := 1) dX12_readLine_92 (by decide) ?_
            refine x_callV (rf' := 0) (rl' := 0) [.int 1] [] dX12_readLine_93 vX12_145 Y_X12_bad f187 (by decide) rfl rfl (Nat.le_of_ble_eq_true rfl) (Nat.le_of_ble_eq_true rfl) (by decide) (by decide) (c_bad (k := 1) htn hv hmt tk188 f187 g37 (fun _ => rfl)) (fun r h207 e208 => ?_)
            obtain ⟨sm209, e0, m210⟩ := e208
            cases e0
            have sm209 : Sm [36] h179 h207 := sm209
            have f211 := sm209.at g37 (by decide)
            have f212 := sm209.at b38 (by decide)
            have f213 := sm209.at b40 (by decide)
            have sm214 := sm1.tr (sm209.wide (by decide))
            exact x_zret dX12_readLine_96 rfl rfl ⟨sm214, by rw [show (lnF tn tv s).or (tokF tn tv 19 (lnS tn tv s).1) = some (1, (lnS tn tv s).1) by rw [eF, show tokF tn tv 19 (lnS tn tv s).1 = some (1, (lnS tn tv s).1) from if_neg k190]; rfl]; exact ⟨rfl, m210, ⟨_, f212, b1⟩, ⟨_, f213⟩⟩⟩
      · rw [if_neg k178]
        refine x_if_eq (tgt := 42) dX12_readLine_32 (by decide) (fun c_32 => ?_) (fun c_32 => absurd (by decide) c_32)
        refine x_aload_n dX12_readLine_42 0 rfl ?_
        refine x_callV (rf' := 1) (rl' := 26) [] [] dX12_readLine_43 vX12_129 Y_X12_isPad f36 (by decide) rfl rfl (Nat.le_of_ble_eq_true rfl) (Nat.le_of_ble_eq_true rfl) (by decide) (by decide) (c_isPad htn hv hmt tk f36 f37) (fun _ _ e215 => ?_)
        cases e215
        by_cases k216 : kd tn tv s.1 = 3
        · rw [if_pos k216]
          refine x_if_eq (tgt := 56) dX12_readLine_46 (by decide) (fun c_46 => absurd c_46 (by decide)) (fun c_46 => ?_)
          refine x_aload_n dX12_readLine_49 0 rfl ?_
          refine x_callV (rf' := 4) (rl' := 90) [] [] dX12_readLine_50 vX12_195 Y_X12_readPad f36 (by decide) rfl rfl (Nat.le_of_ble_eq_true rfl) (Nat.le_of_ble_eq_true rfl) (by decide) (by decide) (m_readPad (i := s.1) (nl := s.2.1) (c := s.2.2.1) (R := s.2.2.2) htn hv hmt tk f36 f37 f38 f40 hR hnp hs.1 hs.2 k216) (fun r h217 e218 => ?_)
          obtain ⟨sm1, e9⟩ := e218
          have sm1 : Sm [36, 38, 40] h h217 := sm1
          cases q : padF tn tv s.2.1 s.1 s.2.2.2 with
          | some f =>
            rw [q] at e9
            obtain ⟨e0, e2⟩ := e9
            cases e0
            have eF : lnF tn tv s = some f := by unfold lnF; rw [if_neg k102, if_neg k140, if_neg k178, if_pos k216]; exact q
            refine x_goto (tgt := 75) dX12_readLine_53 (by decide) ?_
            refine x_istore_n (lv2 := [(1, .int 0), (0, .ref 36)]) dX12_readLine_75 (by decide) rfl ?_
            refine x_iload_n dX12_readLine_76 0 rfl ?_
            refine x_if_ne (tgt := 82) dX12_readLine_77 (by decide) (fun c_77 => absurd (by decide) c_77) (fun c_77 => ?_)
            refine x_iconst (v := 0) dX12_readLine_80 (by decide) ?_
            exact x_zret dX12_readLine_81 rfl rfl ⟨sm1, by rw [show (lnF tn tv s).or (tokF tn tv 19 (lnS tn tv s).1) = some f by rw [eF]; rfl]; exact ⟨rfl, e2⟩⟩
          | none =>
            rw [q] at e9
            obtain ⟨e0, ⟨tld2, hM2⟩, rg, nmm⟩ := e9
            cases e0
            have eF : lnF tn tv s = none := by unfold lnF; rw [if_neg k102, if_neg k140, if_neg k178, if_pos k216]; exact q
            have hM3 : MRd h217 tn tv (lnS tn tv s).1 x flt plc tld2 := by unfold lnS; rw [if_neg k102, if_neg k140, if_neg k178, if_pos k216]; exact hM2
            have rg : Rg h217 bk (lnS tn tv s).2.2.2 := by unfold lnS; rw [if_neg k102, if_neg k140, if_neg k178, if_pos k216]; exact rg
            have nmm : Nmm h217 (lnS tn tv s).2.1 (lnS tn tv s).2.2.1 := by unfold lnS; rw [if_neg k102, if_neg k140, if_neg k178, if_pos k216]; exact nmm
            obtain ⟨bk2, b38, b1, b2⟩ := id rg
            obtain ⟨nm2, b40, b3⟩ := id nmm
            have g37 := sm1.at f37 (by decide)
            obtain ⟨m219, m220, m221, m222, m223, m224, f225, tk226⟩ := hM3
            have f225 : h217[36]? = some (cO 12 (MO ((x 0)) ((x 1)) ((x 2)) ((x 3)) ((nI tn)) m219 m220 m221 m222 m223 flt plc m224 tld2 ((x 4)) ((x 5)) ((x 6)) ((x 7)) ((x 8)) ((x 9)) ((x 10)) ((x 11)))) := f225
            have tk226 : TkM tn tv (lnS tn tv s).1 m219 m220 m221 m222 m223 m224 := tk226
            refine x_goto (tgt := 75) dX12_readLine_53 (by decide) ?_
            refine x_istore_n (lv2 := [(1, .int 1), (0, .ref 36)]) dX12_readLine_75 (by decide) rfl ?_
            refine x_iload_n dX12_readLine_76 0 rfl ?_
            refine x_if_ne (tgt := 82) dX12_readLine_77 (by decide) (fun c_77 => ?_) (fun c_77 => absurd c_77 (by decide))
            refine x_aload_n dX12_readLine_82 1 rfl ?_
            refine x_bipush (v := 59) dX12_readLine_83 (by decide) ?_
            refine x_callV (rf' := 0) (rl' := 0) [.int 59] [] dX12_readLine_85 vX12_170 Y_X12_isSign f225 (by decide) rfl rfl (Nat.le_of_ble_eq_true rfl) (Nat.le_of_ble_eq_true rfl) (by decide) (by decide) (c_isSign19 htn hv hmt tk226 f225 g37) (fun _ _ e227 => ?_)
            cases e227
            by_cases k228 : kd tn tv (lnS tn tv s).1 = 19
            · rw [if_pos k228]
              refine x_if_ne (tgt := 97) dX12_readLine_88 (by decide) (fun c_88 => ?_) (fun c_88 => absurd c_88 (by decide))
              refine x_aload_n dX12_readLine_97 1 rfl ?_
              refine x_callV (rf' := 1) (rl' := 21) [] [] dX12_readLine_98 vX12_148 Y_X12_go f225 (by decide) rfl rfl (Nat.le_of_ble_eq_true rfl) (Nat.le_of_ble_eq_true rfl) (by decide) (by decide) (c_goN htn hv hmt tk226 f225 g37 (by omega)) (fun r h229 e230 => ?_)
              obtain ⟨e0, m232, sm231⟩ := e230
              cases e0
              have sm231 : Sm [36] h217 h229 := sm231
              have f233 := sm231.at g37 (by decide)
              have f234 := sm231.at b38 (by decide)
              have f235 := sm231.at b40 (by decide)
              have sm236 := sm1.tr (sm231.wide (by decide))
              obtain ⟨m237, m238, m239, m240, m241, m242, f243, tk244⟩ := m232
              have f243 : h229[36]? = some (cO 12 (MO ((x 0)) ((x 1)) ((x 2)) ((x 3)) ((nI tn)) m237 m238 m239 m240 m241 flt plc m242 tld2 ((x 4)) ((x 5)) ((x 6)) ((x 7)) ((x 8)) ((x 9)) ((x 10)) ((x 11)))) := f243
              have tk244 : TkM tn tv ((lnS tn tv s).1 + 1) m237 m238 m239 m240 m241 m242 := tk244
              refine x_iconst (v := 1) dX12_readLine_101 (by decide) ?_
              exact x_zret dX12_readLine_102 rfl rfl ⟨sm236, by rw [show (lnF tn tv s).or (tokF tn tv 19 (lnS tn tv s).1) = none by rw [eF, show tokF tn tv 19 (lnS tn tv s).1 = none from if_pos k228]; rfl]; exact ⟨rfl, ⟨_, ⟨_, _, _, _, _, _, f243, tk244⟩⟩, ⟨_, f234, b1, b2⟩, ⟨_, f235, b3⟩⟩⟩
            · rw [if_neg k228]
              refine x_if_ne (tgt := 97) dX12_readLine_88 (by decide) (fun c_88 => absurd (by decide) c_88) (fun c_88 => ?_)
              refine x_aload_n dX12_readLine_91 1 rfl ?_
              refine x_iconst (v := 1) dX12_readLine_92 (by decide) ?_
              refine x_callV (rf' := 0) (rl' := 0) [.int 1] [] dX12_readLine_93 vX12_145 Y_X12_bad f225 (by decide) rfl rfl (Nat.le_of_ble_eq_true rfl) (Nat.le_of_ble_eq_true rfl) (by decide) (by decide) (c_bad (k := 1) htn hv hmt tk226 f225 g37 (fun _ => rfl)) (fun r h245 e246 => ?_)
              obtain ⟨sm247, e0, m248⟩ := e246
              cases e0
              have sm247 : Sm [36] h217 h245 := sm247
              have f249 := sm247.at g37 (by decide)
              have f250 := sm247.at b38 (by decide)
              have f251 := sm247.at b40 (by decide)
              have sm252 := sm1.tr (sm247.wide (by decide))
              exact x_zret dX12_readLine_96 rfl rfl ⟨sm252, by rw [show (lnF tn tv s).or (tokF tn tv 19 (lnS tn tv s).1) = some (1, (lnS tn tv s).1) by rw [eF, show tokF tn tv 19 (lnS tn tv s).1 = some (1, (lnS tn tv s).1) from if_neg k228]; rfl]; exact ⟨rfl, m248, ⟨_, f250, b1⟩, ⟨_, f251⟩⟩⟩
        · rw [if_neg k216]
          refine x_if_eq (tgt := 56) dX12_readLine_46 (by decide) (fun c_46 => ?_) (fun c_46 => absurd (by decide) c_46)
          refine x_aload_n dX12_readLine_56 0 rfl ?_
          refine x_callV (rf' := 1) (rl' := 26) [] [] dX12_readLine_57 vX12_132 Y_X12_isDrop f36 (by decide) rfl rfl (Nat.le_of_ble_eq_true rfl) (Nat.le_of_ble_eq_true rfl) (by decide) (by decide) (c_isDrop htn hv hmt tk f36 f37) (fun _ _ e253 => ?_)
          cases e253
          by_cases k254 : kd tn tv s.1 = 4
          · rw [if_pos k254]
            refine x_if_eq (tgt := 70) dX12_readLine_60 (by decide) (fun c_60 => absurd c_60 (by decide)) (fun c_60 => ?_)
            refine x_aload_n dX12_readLine_63 0 rfl ?_
            refine x_callV (rf' := 4) (rl' := 90) [] [] dX12_readLine_64 vX12_198 Y_X12_readDrop f36 (by decide) rfl rfl (Nat.le_of_ble_eq_true rfl) (Nat.le_of_ble_eq_true rfl) (by decide) (by decide) (m_readDrop (i := s.1) (nl := s.2.1) (c := s.2.2.1) (R := s.2.2.2) htn hv hmt tk f36 f37 f38 f40 hR hnp hs.1 hs.2 k254) (fun r h255 e256 => ?_)
            obtain ⟨sm1, e9⟩ := e256
            have sm1 : Sm [36, 38, 40] h h255 := sm1
            cases q : drpF tn tv s.2.1 s.2.2.1.2.2.2 s.1 with
            | some f =>
              rw [q] at e9
              obtain ⟨e0, e2⟩ := e9
              cases e0
              have eF : lnF tn tv s = some f := by unfold lnF; rw [if_neg k102, if_neg k140, if_neg k178, if_neg k216, if_pos k254]; exact q
              refine x_goto (tgt := 75) dX12_readLine_67 (by decide) ?_
              refine x_istore_n (lv2 := [(1, .int 0), (0, .ref 36)]) dX12_readLine_75 (by decide) rfl ?_
              refine x_iload_n dX12_readLine_76 0 rfl ?_
              refine x_if_ne (tgt := 82) dX12_readLine_77 (by decide) (fun c_77 => absurd (by decide) c_77) (fun c_77 => ?_)
              refine x_iconst (v := 0) dX12_readLine_80 (by decide) ?_
              exact x_zret dX12_readLine_81 rfl rfl ⟨sm1, by rw [show (lnF tn tv s).or (tokF tn tv 19 (lnS tn tv s).1) = some f by rw [eF]; rfl]; exact ⟨rfl, e2⟩⟩
            | none =>
              rw [q] at e9
              obtain ⟨e0, ⟨tld2, hM2⟩, rg, nmm⟩ := e9
              cases e0
              have eF : lnF tn tv s = none := by unfold lnF; rw [if_neg k102, if_neg k140, if_neg k178, if_neg k216, if_pos k254]; exact q
              have hM3 : MRd h255 tn tv (lnS tn tv s).1 x flt plc tld2 := by unfold lnS; rw [if_neg k102, if_neg k140, if_neg k178, if_neg k216]; exact hM2
              have rg : Rg h255 bk (lnS tn tv s).2.2.2 := by unfold lnS; rw [if_neg k102, if_neg k140, if_neg k178, if_neg k216]; exact rg
              have nmm : Nmm h255 (lnS tn tv s).2.1 (lnS tn tv s).2.2.1 := by unfold lnS; rw [if_neg k102, if_neg k140, if_neg k178, if_neg k216]; exact nmm
              obtain ⟨bk2, b38, b1, b2⟩ := id rg
              obtain ⟨nm2, b40, b3⟩ := id nmm
              have g37 := sm1.at f37 (by decide)
              obtain ⟨m257, m258, m259, m260, m261, m262, f263, tk264⟩ := hM3
              have f263 : h255[36]? = some (cO 12 (MO ((x 0)) ((x 1)) ((x 2)) ((x 3)) ((nI tn)) m257 m258 m259 m260 m261 flt plc m262 tld2 ((x 4)) ((x 5)) ((x 6)) ((x 7)) ((x 8)) ((x 9)) ((x 10)) ((x 11)))) := f263
              have tk264 : TkM tn tv (lnS tn tv s).1 m257 m258 m259 m260 m261 m262 := tk264
              refine x_goto (tgt := 75) dX12_readLine_67 (by decide) ?_
              refine x_istore_n (lv2 := [(1, .int 1), (0, .ref 36)]) dX12_readLine_75 (by decide) rfl ?_
              refine x_iload_n dX12_readLine_76 0 rfl ?_
              refine x_if_ne (tgt := 82) dX12_readLine_77 (by decide) (fun c_77 => ?_) (fun c_77 => absurd c_77 (by decide))
              refine x_aload_n dX12_readLine_82 1 rfl ?_
              refine x_bipush (v := 59) dX12_readLine_83 (by decide) ?_
              refine x_callV (rf' := 0) (rl' := 0) [.int 59] [] dX12_readLine_85 vX12_170 Y_X12_isSign f263 (by decide) rfl rfl (Nat.le_of_ble_eq_true rfl) (Nat.le_of_ble_eq_true rfl) (by decide) (by decide) (c_isSign19 htn hv hmt tk264 f263 g37) (fun _ _ e265 => ?_)
              cases e265
              by_cases k266 : kd tn tv (lnS tn tv s).1 = 19
              · rw [if_pos k266]
                refine x_if_ne (tgt := 97) dX12_readLine_88 (by decide) (fun c_88 => ?_) (fun c_88 => absurd c_88 (by decide))
                refine x_aload_n dX12_readLine_97 1 rfl ?_
                refine x_callV (rf' := 1) (rl' := 21) [] [] dX12_readLine_98 vX12_148 Y_X12_go f263 (by decide) rfl rfl (Nat.le_of_ble_eq_true rfl) (Nat.le_of_ble_eq_true rfl) (by decide) (by decide) (c_goN htn hv hmt tk264 f263 g37 (by omega)) (fun r h267 e268 => ?_)
                obtain ⟨e0, m270, sm269⟩ := e268
                cases e0
                have sm269 : Sm [36] h255 h267 := sm269
                have f271 := sm269.at g37 (by decide)
                have f272 := sm269.at b38 (by decide)
                have f273 := sm269.at b40 (by decide)
                have sm274 := sm1.tr (sm269.wide (by decide))
                obtain ⟨m275, m276, m277, m278, m279, m280, f281, tk282⟩ := m270
                have f281 : h267[36]? = some (cO 12 (MO ((x 0)) ((x 1)) ((x 2)) ((x 3)) ((nI tn)) m275 m276 m277 m278 m279 flt plc m280 tld2 ((x 4)) ((x 5)) ((x 6)) ((x 7)) ((x 8)) ((x 9)) ((x 10)) ((x 11)))) := f281
                have tk282 : TkM tn tv ((lnS tn tv s).1 + 1) m275 m276 m277 m278 m279 m280 := tk282
                refine x_iconst (v := 1) dX12_readLine_101 (by decide) ?_
                exact x_zret dX12_readLine_102 rfl rfl ⟨sm274, by rw [show (lnF tn tv s).or (tokF tn tv 19 (lnS tn tv s).1) = none by rw [eF, show tokF tn tv 19 (lnS tn tv s).1 = none from if_pos k266]; rfl]; exact ⟨rfl, ⟨_, ⟨_, _, _, _, _, _, f281, tk282⟩⟩, ⟨_, f272, b1, b2⟩, ⟨_, f273, b3⟩⟩⟩
              · rw [if_neg k266]
                refine x_if_ne (tgt := 97) dX12_readLine_88 (by decide) (fun c_88 => absurd (by decide) c_88) (fun c_88 => ?_)
                refine x_aload_n dX12_readLine_91 1 rfl ?_
                refine x_iconst (v := 1) dX12_readLine_92 (by decide) ?_
                refine x_callV (rf' := 0) (rl' := 0) [.int 1] [] dX12_readLine_93 vX12_145 Y_X12_bad f263 (by decide) rfl rfl (Nat.le_of_ble_eq_true rfl) (Nat.le_of_ble_eq_true rfl) (by decide) (by decide) (c_bad (k := 1) htn hv hmt tk264 f263 g37 (fun _ => rfl)) (fun r h283 e284 => ?_)
                obtain ⟨sm285, e0, m286⟩ := e284
                cases e0
                have sm285 : Sm [36] h255 h283 := sm285
                have f287 := sm285.at g37 (by decide)
                have f288 := sm285.at b38 (by decide)
                have f289 := sm285.at b40 (by decide)
                have sm290 := sm1.tr (sm285.wide (by decide))
                exact x_zret dX12_readLine_96 rfl rfl ⟨sm290, by rw [show (lnF tn tv s).or (tokF tn tv 19 (lnS tn tv s).1) = some (1, (lnS tn tv s).1) by rw [eF, show tokF tn tv 19 (lnS tn tv s).1 = some (1, (lnS tn tv s).1) from if_neg k266]; rfl]; exact ⟨rfl, m286, ⟨_, f288, b1⟩, ⟨_, f289⟩⟩⟩
          · rw [if_neg k254]
            refine x_if_eq (tgt := 70) dX12_readLine_60 (by decide) (fun c_60 => ?_) (fun c_60 => absurd (by decide) c_60)
            refine x_aload_n dX12_readLine_70 0 rfl ?_
            refine x_iconst (v := 1) dX12_readLine_71 (by decide) ?_
            refine x_callV (rf' := 0) (rl' := 0) [.int 1] [] dX12_readLine_72 vX12_145 Y_X12_bad f36 (by decide) rfl rfl (Nat.le_of_ble_eq_true rfl) (Nat.le_of_ble_eq_true rfl) (by decide) (by decide) (c_bad (k := 1) htn hv hmt tk f36 f37 (fun _ => rfl)) (fun r h291 e292 => ?_)
            obtain ⟨sm293, e0, m294⟩ := e292
            cases e0
            have sm293 : Sm [36] h h291 := sm293
            have f295 := sm293.at f37 (by decide)
            have f296 := sm293.at f38 (by decide)
            have f297 := sm293.at f40 (by decide)
            have sm298 := sm0.tr (sm293.wide (by decide))
            refine x_istore_n (lv2 := [(1, .int 0), (0, .ref 36)]) dX12_readLine_75 (by decide) rfl ?_
            refine x_iload_n dX12_readLine_76 0 rfl ?_
            refine x_if_ne (tgt := 82) dX12_readLine_77 (by decide) (fun c_77 => absurd (by decide) c_77) (fun c_77 => ?_)
            refine x_iconst (v := 0) dX12_readLine_80 (by decide) ?_
            exact x_zret dX12_readLine_81 rfl rfl ⟨sm298, by rw [show (lnF tn tv s).or (tokF tn tv 19 (lnS tn tv s).1) = some (1, s.1) by rw [show lnF tn tv s = some (1, s.1) by unfold lnF; rw [if_neg k102, if_neg k140, if_neg k178, if_neg k216, if_neg k254]]; rfl]; exact ⟨rfl, m294, ⟨_, f296, fun j hj => rfl⟩, ⟨_, f297⟩⟩⟩

theorem tkP_monoL {tn : Nat} {tv : Nat → Nat} : ∀ (d i : Nat), tkP tn tv i ≤ tkP tn tv (i + d)
  | 0, _ => Nat.le_refl _
  | d + 1, i => Nat.le_trans (tkP_monoL d i) (tkP_mono _)
theorem kd_600 {tn i : Nat} {tv : Nat → Nat} (h : ¬ kd tn tv i = 22) : i < 600 := by
  have h1 : tkP tn tv i < tkM tn := by
    by_cases q : tkP tn tv i < tkM tn
    · exact q
    · exact absurd (if_neg q) h
  have h2 := (tkP_le (tn := tn) (tv := tv) i (fun j hj => by
    have := tkP_monoL (tn := tn) (tv := tv) (i - j) j
    rw [show j + (i - j) = i by omega] at this
    omega)).1
  have := (tkM_le tn).2
  omega

theorem run_bad {tn m n : Nat} {tv : Nat → Nat} {s : SG} {f : Nat × Nat} (nst : ¬ (kd tn tv s.1 = 22 ∧ tn ≤ 600)) (h22 : kd tn tv s.1 = 22 → lnF tn tv s = some (1, s.1)) (q : (lnF tn tv s).or (tokF tn tv 19 (lnS tn tv s).1) = some f) : runF tn tv (m + 1) s n = .inl f := by
  rw [runF]
  by_cases z : kd tn tv s.1 = 22
  · rw [if_pos z, if_neg (fun y => nst ⟨z, y⟩)]
    rw [h22 z] at q
    exact congrArg Sum.inl (Option.some.inj q)
  · rw [if_neg z, q]

set_option maxRecDepth 100000 in
set_option maxHeartbeats 4000000 in
theorem l_bookM {G : GT} {h0 : List PE} {tn : Nat} {tv : Nat → Nat} {mtp bk0 : Nat → Int32} {x : Nat → Int32} {Q : OT → Prop} (htn : tn ≤ 640) (hv : ∀ j, j < tn → tv j < 256) (hmt : ∀ j, j < tn → mtp j = nI (tv j)) (f37 : h0[37]? = some (cI 640 mtp)) : ∀ (m : Nat) (s : SG) (n : Nat) (h : List PE) (plc tld : Int32), 601 ≤ m + s.1 → s.1 ≤ 600 → n ≤ s.1 → SgOk s → Sm [36, 38, 40] h0 h → MRd h tn tv s.1 x 0 plc tld → Rg h bk0 s.2.2.2 → Nmm h s.2.1 s.2.2.1 → (∀ (y : SG) (n' : Nat) (h : List PE) (plc tld : Int32), runF tn tv m s n = .inr (y, n') → SgOk y → n' ≤ 600 → Sm [36, 38, 40] h0 h → MRd h tn tv y.1 x 0 plc tld → Rg h bk0 y.2.2.2 → NmB h → X (NF G) G mX12_book 7 157 95 [(1, .int (nI n')), (0, .ref 36)] [] h Q) → (∀ (f : Nat × Nat) (h : List PE), runF tn tv m s n = .inl f → Sm [36, 38, 40] h0 h → MBd h tn tv x f → RgB h bk0 → NmB h → Q (some (.int (-1 - nI (plc' tn tv f.2))), h)) → X (NF G) G mX12_book 7 157 68 [(1, .int (nI n)), (0, .ref 36)] [] h Q := by
  intro m
  induction m with
  | zero => intro s n h plc tld hm h6; omega
  | succ m ih =>
    intro s n h plc tld hm h6 hn hs sm hM rg nmm KX KF
    have g37 := sm.at f37 (by decide)
    obtain ⟨too, frm, knd, num, sgn, wrd, f36, tk⟩ := id hM
    obtain ⟨bk, f38, b1, b2⟩ := id rg
    obtain ⟨nm, f40, b3⟩ := id nmm
    have h22 : kd tn tv s.1 = 22 → lnF tn tv s = some (1, s.1) := fun z => by unfold lnF; rw [if_neg (by omega), if_neg (by omega), if_neg (by omega), if_neg (by omega), if_neg (by omega)]
    refine x_aload_n dX12_book_68 1 rfl ?_
    refine x_get (v := .int knd) dX12_book_69 fX12_81 f36 (by decide) rfl ?_
    refine x_if_eq (tgt := 95) dX12_book_72 (by decide) (fun c_72 => ?_) (fun c_72 => ?_)
    · refine x_perm [0, 1] rfl ?_
      have k0 := tk.k0.mp c_72
      exact KX s n h plc tld (by rw [runF, if_pos k0.1, if_pos k0.2]) hs (by omega) sm hM rg ⟨nm, f40⟩
    · refine x_aload_n dX12_book_75 1 rfl ?_
      have nst : ¬ (kd tn tv s.1 = 22 ∧ tn ≤ 600) := fun z => c_72 (tk.k0.mpr z)
      refine x_callV (rf' := 6) (rl' := 136) [] [] dX12_book_76 vX12_208 Y_X12_readLine f36 (by decide) rfl rfl (Nat.le_of_ble_eq_true rfl) (Nat.le_of_ble_eq_true rfl) (by decide) (by decide) (m_readLine htn hv hmt tk f36 g37 f38 f40 b2 b3 hs) (fun r h101 e102 => ?_)
      obtain ⟨sm1, e9⟩ := e102
      have sm1 : Sm [36, 38, 40] h h101 := sm1
      cases q : (lnF tn tv s).or (tokF tn tv 19 (lnS tn tv s).1) with
      | some f =>
        rw [q] at e9
        obtain ⟨e0, mb, ⟨bk9, g38, h38⟩, nb⟩ := e9
        cases e0
        obtain ⟨t1, t2, t3, t4, t5, t6, t7, p36⟩ := id mb
        refine x_if_ne (tgt := 89) dX12_book_79 (by decide) (fun c_79 => absurd (by decide) c_79) (fun c_79 => ?_)
        refine x_iconst (v := (-1)) dX12_book_82 (by decide) ?_
        refine x_aload_n dX12_book_83 1 rfl ?_
        refine x_get (v := .int (nI (plc' tn tv (f.2)))) dX12_book_84 fX12_142 p36 (by decide) rfl ?_
        refine x_isub dX12_book_87 ?_
        exact x_iret dX12_book_88 rfl (KF f h101 (run_bad nst h22 q) (sm.tr sm1) mb ⟨bk9, g38, fun j hj => (h38 j hj).trans (b1 j hj)⟩ nb)
      | none =>
        rw [q] at e9
        obtain ⟨e0, ⟨tld2, hM2⟩, ⟨bk9, g38, h38, h39⟩, nmm2⟩ := e9
        cases e0
        obtain ⟨q1, q2⟩ := orN q
        refine x_if_ne (tgt := 89) dX12_book_79 (by decide) (fun c_79 => ?_) (fun c_79 => absurd c_79 (by decide))
        refine x_iincN (lv2 := [(1, .int (nI (n + 1))), (0, .ref 36)]) dX12_book_89 0 rfl (by decide) rfl ?_
        refine x_goto (tgt := 68) dX12_book_92 (by decide) ?_
        refine x_perm (lv2 := [(1, .int (nI (n + 1))), (0, .ref 36)]) [0, 1] rfl ?_
        have n22 : ¬ kd tn tv s.1 = 22 := fun z => by rw [h22 z] at q1; exact absurd q1 (by simp)
        have eS : runF tn tv (m + 1) s n = runF tn tv m ((lnS tn tv s).1 + 1, (lnS tn tv s).2) (n + 1) := by rw [runF, if_neg n22, q1, q2]; rfl
        rw [eS] at KX KF
        have hgt := lnS_gt (tn := tn) (tv := tv) s
        have h19 := tokE q2
        have hlt := kd_600 (show ¬ kd tn tv (lnS tn tv s).1 = 22 by omega)
        exact ih ((lnS tn tv s).1 + 1, (lnS tn tv s).2) (n + 1) h101 plc tld2 (by show 601 ≤ m + ((lnS tn tv s).1 + 1); omega) (by show (lnS tn tv s).1 + 1 ≤ 600; omega) (by show n + 1 ≤ (lnS tn tv s).1 + 1; omega) (lnS_ok hs q1).1 (sm.tr sm1) hM2 ⟨bk9, g38, fun j hj => (h38 j hj).trans (b1 j hj), h39⟩ nmm2 KX KF

def cpF (bk : Nat → Int32) (b m : Nat) (j : Nat) : Int32 := if 484 * b ≤ j ∧ j < 484 * b + m then bk (484 * 20 + (j - 484 * b)) else bk j
theorem cp_0 {bk : Nat → Int32} {b : Nat} : cpF bk b 0 = bk := by
  funext j
  exact if_neg (by omega)
theorem cp_1 {bk : Nat → Int32} {b m : Nat} (hb : b < 20) (hm : m < 484) : upd (cpF bk b m) (484 * b + m) (cpF bk b m (484 * 20 + m)) = cpF bk b (m + 1) := by
  funext j
  show (if j = 484 * b + m then cpF bk b m (484 * 20 + m) else cpF bk b m j) = cpF bk b (m + 1) j
  unfold cpF
  by_cases e : j = 484 * b + m
  · rw [if_pos e, if_neg (by omega), if_pos (by omega), show j - 484 * b = m by omega]
  · rw [if_neg e]
    by_cases q : 484 * b ≤ j ∧ j < 484 * b + m
    · rw [if_pos q, if_pos (by omega)]
    · rw [if_neg q, if_neg (by omega)]

set_option maxRecDepth 100000 in
set_option maxHeartbeats 4000000 in
theorem l_copy {G : GT} {h0 : List PE} {tn b n : Nat} {flt plc tld too frm knd num sgn : Int32} {wrd : Int64} {x : Nat → Int32} {bk : Nat → Int32} {Q : OT → Prop} (hb : b < 20) (f36 : h0[36]? = some (cO 12 (MO ((x 0)) ((x 1)) ((x 2)) ((nI b)) ((nI tn)) too frm knd num sgn flt plc wrd tld ((x 4)) ((x 5)) ((x 6)) ((x 7)) ((x 8)) ((x 9)) ((x 10)) ((x 11))))) (KX : ∀ h, Sm [38] h0 h → h[38]? = some (cI 10164 (cpF bk b 484)) → X (NF G) G mX12_book 7 157 136 [(1, .int (nI n)), (0, .ref 36)] [] h Q) : ∀ (m k : Nat) (h : List PE), 484 - k = m → k ≤ 484 → Sm [38] h0 h → h[38]? = some (cI 10164 (cpF bk b k)) → X (NF G) G mX12_book 7 157 97 [(2, .int (nI k)), (1, .int (nI n)), (0, .ref 36)] [] h Q := by
  intro m
  induction m with
  | zero =>
    intro k h hm hk sm f38
    have ek : k = 484 := by omega
    subst ek
    have g36 := sm.at f36 (by decide)
    refine x_iload_n dX12_book_97 0 rfl ?_
    refine x_sipush (v := 484) dX12_book_98 (by decide) ?_
    refine x_icmp_geN (tgt := 136) (a := 484) (b := 484) (by omega) (by omega) dX12_book_101 (by decide) (fun c_101 => ?_) (fun c_101 => absurd (by omega) c_101)
    refine x_perm [1, 2] rfl ?_
    exact KX h sm f38
  | succ m ih =>
    intro k h hm hk sm f38
    have g36 := sm.at f36 (by decide)
    refine x_iload_n dX12_book_97 0 rfl ?_
    refine x_sipush (v := 484) dX12_book_98 (by decide) ?_
    refine x_icmp_geN (tgt := 136) (a := k) (b := 484) (by omega) (by omega) dX12_book_101 (by decide) (fun c_101 => absurd c_101 (by omega)) (fun c_101 => ?_)
    refine x_aload_n dX12_book_104 2 rfl ?_
    refine x_get (v := .ref 38) dX12_book_105 fX12_13 g36 (by decide) rfl ?_
    refine x_aload_n dX12_book_108 2 rfl ?_
    refine x_get (v := .int (nI b)) dX12_book_109 fX12_205 g36 (by decide) rfl ?_
    refine x_callS (rf' := 0) (rl' := 0) [.int (nI b)] [.ref 38] dX12_book_112 vX12_154 Y_X12_at rfl rfl (Nat.le_of_ble_eq_true rfl) (Nat.le_of_ble_eq_true rfl) (by decide) (by decide) (c_at (b := b)) (fun _ _ e101 => ?_)
    cases e101
    refine x_iload_n dX12_book_115 0 rfl ?_
    refine x_iaddN (a := (484 * b)) (b := k) dX12_book_116 ?_
    refine x_aload_n dX12_book_117 2 rfl ?_
    refine x_get (v := .ref 38) dX12_book_118 fX12_13 g36 (by decide) rfl ?_
    refine x_bipush (v := 20) dX12_book_121 (by decide) ?_
    refine x_callS (rf' := 0) (rl' := 0) [.int 20] [.ref 38, .int (nI ((484 * b) + k)), .ref 38] dX12_book_123 vX12_154 Y_X12_at rfl rfl (Nat.le_of_ble_eq_true rfl) (Nat.le_of_ble_eq_true rfl) (by decide) (by decide) (c_at (b := 20)) (fun _ _ e102 => ?_)
    cases e102
    refine x_iload_n dX12_book_126 0 rfl ?_
    refine x_iaddN (a := (484 * 20)) (b := k) dX12_book_127 ?_
    refine x_ialdN (i := ((484 * 20) + k)) dX12_book_128 f38 (by decide) (by omega) (by decide) ?_
    refine x_iastN (i := ((484 * b) + k)) dX12_book_129 f38 (by decide) (by omega) (by decide) (fun h103 a104 e105 l106 s107 => ?_)
    have f108 := (e105 36 (by decide)).trans g36
    have sm109 := Sm.put sm e105 l106 s107 (by decide)
    refine x_iincN (lv2 := [(2, .int (nI (k + 1))), (1, .int (nI n)), (0, .ref 36)]) dX12_book_130 0 rfl (by decide) rfl ?_
    refine x_goto (tgt := 97) dX12_book_133 (by decide) ?_
    refine x_perm [0, 1, 2] rfl ?_
    exact ih (k + 1) h103 (by omega) (by omega) sm109 (by rw [← cp_1 hb (by omega)]; exact a104)

def bkRun (s : ST) (R0 : Nat → Int32) : Sum (Nat × Nat) (SG × Nat) := runF (s_tn s) (s_tv s) 601 (0, [], (0, 0, 0, 0), R0) 0
def bkA (s : ST) (R0 : Nat → Int32) : Int32 := if 20 ≤ s_n s then -1000 else match bkRun s R0 with
  | .inl f => -1 - nI (plc' (s_tn s) (s_tv s) f.2)
  | .inr y => nI y.2
def bkS (s : ST) (R0 : Nat → Int32) : ST := if 20 ≤ s_n s then s_setTn s 0 else match bkRun s R0 with
  | .inl f => (s_n s, s_td s, 0, s_tv s, s_dy s, s_rc s, s_ct s, nI f.1, s_br s, s_pk s, s_bs s)
  | .inr y => (s_n s + 1, s_td s, 0, s_tv s, va_up (s_dy s) (s_n s) (nI (s_td s)), va_up (s_rc s) (s_n s) y.1.2.2.2, va_up (s_ct s) (s_n s) y.1.2.2.1, 0, s_br s, s_pk s, s_bs s)

theorem bk_r2 {n : Nat} {dy sdy bk bk7 R : Nat → Int32} {rc : Nat → Nat → Int32} {td : Int32} (hb : n < 20) (r2 : ∀ k, k < n → dy k = sdy k ∧ ∀ j, j < 484 → bk (484 * k + j) = rc k j) (b1 : ∀ j, j < 484 * 20 → bk7 j = bk j) (b2 : ∀ j, j < 484 → bk7 (484 * 20 + j) = R j) : ∀ k, k < n + 1 → upd dy n td k = va_up sdy n td k ∧ ∀ j, j < 484 → cpF bk7 n 484 (484 * k + j) = va_up rc n R k j := by
  intro k hk
  by_cases e : k = n
  · subst e
    rw [pk_us, va_up_s, va_up_s]
    refine ⟨rfl, fun j hj => ?_⟩
    unfold cpF
    rw [if_pos (by omega), show 484 * k + j - 484 * k = j by omega]
    exact b2 j hj
  · rw [pk_un e, va_up_n e, va_up_n e]
    refine ⟨(r2 k (by omega)).1, fun j hj => ?_⟩
    unfold cpF
    rw [if_neg (by omega), b1 _ (by omega)]
    exact (r2 k (by omega)).2 j hj

def rz0 (bk : Nat → Int32) : Nat → Int32 := fun j => (upd (upd (upd (upd bk (484 * 20 + 0) 0) (484 * 20 + 1) 0) (484 * 20 + 2) 0) (484 * 20 + 3) 0) (484 * 20 + j)
theorem rz0_0 (bk : Nat → Int32) : rz0 bk 0 = 0 ∧ rz0 bk 1 = 0 ∧ rz0 bk 2 = 0 ∧ rz0 bk 3 = 0 := ⟨rfl, rfl, rfl, rfl⟩

set_option maxRecDepth 100000 in
set_option maxHeartbeats 4000000 in
theorem m_book {G : GT} {h : List PE} {s : ST} (hM : MoR h s) (hW : WS s) {bk9 : Nat → Int32} (e38 : h[38]? = some (cI 10164 bk9)) : CT G mX12_book 7 157 [.ref 36] h (fun o => o.1 = some (.int (bkA s (rz0 bk9))) ∧ MoR o.2 (bkS s (rz0 bk9)) ∧ Sm [36, 38, 39, 40] h o.2) := by
  obtain ⟨thr, siz, too, frm, knd, num, sgn, plc, wrd, tld, now, lst, pfo, thk, are, ipd, mt, bk, dy, nm, cv, sv, k1, k2, k3, k4, k5, k6, k7, f36, f37, f38, f39, f40, f41, f42, f43, f44, f45, f46, f47, f48, f49, r1, r2, r3⟩ := hM
  have eb : bk = bk9 := by
    rw [f38] at e38
    cases e38
    rfl
  subst eb
  have htn := hW.2.2.1
  have hv := hW.2.2.2.1
  have hn20 := hW.1
  have sm0 : Sm [36, 38, 39, 40] h h := Sm.rf
  generalize hR0 : rz0 bk = R0
  have z0 : R0 0 = nI 0 := by rw [← hR0]; rfl
  have z1 : R0 1 = nI 0 := by rw [← hR0]; rfl
  have z2 : R0 2 = nI 0 := by rw [← hR0]; rfl
  have z3 : R0 3 = nI 0 := by rw [← hR0]; rfl
  show X (NF G) G mX12_book 7 157 0 [(0, .ref 36)] [] h _
  refine x_aload_n dX12_book_0 0 rfl ?_
  refine x_iconst (v := 0) dX12_book_1 (by decide) ?_
  refine x_put (fs2 := (MO 0 ((nI (s_tn s))) ((nI (s_td s))) ((nI (s_n s))) siz too frm knd num sgn ((s_fl s)) plc wrd tld now lst pfo thk are ((s_br s)) ipd ((s_bs s)))) dX12_book_2 fX12_55 (Or.inl rfl) f36 (by decide) rfl rfl (Nat.le_of_ble_eq_true rfl) rfl (fun h101 a102 e103 l104 s105 => ?_)
  have f106 := (e103 37 (by decide)).trans f37
  have f107 := (e103 38 (by decide)).trans f38
  have f108 := (e103 39 (by decide)).trans f39
  have f109 := (e103 40 (by decide)).trans f40
  have sm110 := Sm.put sm0 e103 l104 s105 (by decide)
  refine x_aload_n dX12_book_5 0 rfl ?_
  refine x_aload_n dX12_book_6 0 rfl ?_
  refine x_callV (rf' := 0) (rl' := 0) [] [.ref 36] dX12_book_7 vX12_201 Y_X12_take a102 (by decide) rfl rfl (Nat.le_of_ble_eq_true rfl) (Nat.le_of_ble_eq_true rfl) (by decide) (by decide) (c_take a102) (fun r h111 e1 => ?_)
  obtain ⟨e0, g112, sm113⟩ := e1
  cases e0
  have sm113 : Sm [36] h101 h111 := sm113
  have f114 := sm113.at f106 (by decide)
  have f115 := sm113.at f107 (by decide)
  have f116 := sm113.at f108 (by decide)
  have f117 := sm113.at f109 (by decide)
  have sm118 := sm110.tr (sm113.wide (by decide))
  refine x_put (fs2 := (MO 0 0 ((nI (s_td s))) ((nI (s_n s))) ((nI (s_tn s))) too frm knd num sgn ((s_fl s)) plc wrd tld now lst pfo thk are ((s_br s)) ipd ((s_bs s)))) dX12_book_10 fX12_72 (Or.inl rfl) g112 (by decide) rfl rfl (Nat.le_of_ble_eq_true rfl) rfl (fun h119 a120 e121 l122 s123 => ?_)
  have f124 := (e121 37 (by decide)).trans f114
  have f125 := (e121 38 (by decide)).trans f115
  have f126 := (e121 39 (by decide)).trans f116
  have f127 := (e121 40 (by decide)).trans f117
  have sm128 := Sm.put sm118 e121 l122 s123 (by decide)
  refine x_aload_n dX12_book_13 0 rfl ?_
  refine x_get (v := .int (nI (s_n s))) dX12_book_14 fX12_205 a120 (by decide) rfl ?_
  refine x_bipush (v := 20) dX12_book_17 (by decide) ?_
  refine x_icmp_neN (tgt := 26) (a := (s_n s)) (b := 20) (by omega) (by omega) dX12_book_19 (by decide) (fun c_19 => ?_) (fun c_19 => ?_)
  · refine x_aload_n dX12_book_26 0 rfl ?_
    refine x_iconst (v := 0) dX12_book_27 (by decide) ?_
    refine x_put (fs2 := (MO 0 0 ((nI (s_td s))) ((nI (s_n s))) ((nI (s_tn s))) too frm knd num sgn 0 plc wrd tld now lst pfo thk are ((s_br s)) ipd ((s_bs s)))) dX12_book_28 fX12_139 (Or.inl rfl) a120 (by decide) rfl rfl (Nat.le_of_ble_eq_true rfl) rfl (fun h129 a130 e131 l132 s133 => ?_)
    have f134 := (e131 37 (by decide)).trans f124
    have f135 := (e131 38 (by decide)).trans f125
    have f136 := (e131 39 (by decide)).trans f126
    have f137 := (e131 40 (by decide)).trans f127
    have sm138 := Sm.put sm128 e131 l132 s133 (by decide)
    refine x_iconst (v := 0) dX12_book_31 (by decide) ?_
    refine x_istore_n (lv2 := [(1, .int 0), (0, .ref 36)]) dX12_book_32 (by decide) rfl ?_
    refine x_iload_n dX12_book_33 0 rfl ?_
    refine x_iconst (v := 4) dX12_book_34 (by decide) ?_
    refine x_icmp_ge (tgt := 57) dX12_book_35 (by decide) (fun c_35 => absurd c_35 (by decide)) (fun c_35 => ?_)
    refine x_aload_n dX12_book_38 1 rfl ?_
    refine x_get (v := .ref 38) dX12_book_39 fX12_13 a130 (by decide) rfl ?_
    refine x_bipush (v := 20) dX12_book_42 (by decide) ?_
    refine x_callS (rf' := 0) (rl' := 0) [.int 20] [.ref 38] dX12_book_44 vX12_154 Y_X12_at rfl rfl (Nat.le_of_ble_eq_true rfl) (Nat.le_of_ble_eq_true rfl) (by decide) (by decide) (c_at (b := 20)) (fun _ _ e139 => ?_)
    cases e139
    refine x_iload_n dX12_book_47 0 rfl ?_
    refine x_iaddN (a := (484 * 20)) (b := 0) dX12_book_48 ?_
    refine x_iconst (v := 0) dX12_book_49 (by decide) ?_
    refine x_iastN (i := ((484 * 20) + 0)) dX12_book_50 f135 (by decide) (by omega) (by decide) (fun h140 a141 e142 l143 s144 => ?_)
    have f145 := (e142 36 (by decide)).trans a130
    have f146 := (e142 37 (by decide)).trans f134
    have f147 := (e142 39 (by decide)).trans f136
    have f148 := (e142 40 (by decide)).trans f137
    have sm149 := Sm.put sm138 e142 l143 s144 (by decide)
    refine x_iinc (lv2 := [(1, .int 1), (0, .ref 36)]) dX12_book_51 0 rfl (by decide) (by decide) rfl ?_
    refine x_goto (tgt := 33) dX12_book_54 (by decide) ?_
    refine x_iload_n dX12_book_33 0 rfl ?_
    refine x_iconst (v := 4) dX12_book_34 (by decide) ?_
    refine x_icmp_ge (tgt := 57) dX12_book_35 (by decide) (fun c_35 => absurd c_35 (by decide)) (fun c_35 => ?_)
    refine x_aload_n dX12_book_38 1 rfl ?_
    refine x_get (v := .ref 38) dX12_book_39 fX12_13 f145 (by decide) rfl ?_
    refine x_bipush (v := 20) dX12_book_42 (by decide) ?_
    refine x_callS (rf' := 0) (rl' := 0) [.int 20] [.ref 38] dX12_book_44 vX12_154 Y_X12_at rfl rfl (Nat.le_of_ble_eq_true rfl) (Nat.le_of_ble_eq_true rfl) (by decide) (by decide) (c_at (b := 20)) (fun _ _ e150 => ?_)
    cases e150
    refine x_iload_n dX12_book_47 0 rfl ?_
    refine x_iaddN (a := (484 * 20)) (b := 1) dX12_book_48 ?_
    refine x_iconst (v := 0) dX12_book_49 (by decide) ?_
    refine x_iastN (i := ((484 * 20) + 1)) dX12_book_50 a141 (by decide) (by omega) (by decide) (fun h151 a152 e153 l154 s155 => ?_)
    have f156 := (e153 36 (by decide)).trans f145
    have f157 := (e153 37 (by decide)).trans f146
    have f158 := (e153 39 (by decide)).trans f147
    have f159 := (e153 40 (by decide)).trans f148
    have sm160 := Sm.put sm149 e153 l154 s155 (by decide)
    refine x_iinc (lv2 := [(1, .int 2), (0, .ref 36)]) dX12_book_51 0 rfl (by decide) (by decide) rfl ?_
    refine x_goto (tgt := 33) dX12_book_54 (by decide) ?_
    refine x_iload_n dX12_book_33 0 rfl ?_
    refine x_iconst (v := 4) dX12_book_34 (by decide) ?_
    refine x_icmp_ge (tgt := 57) dX12_book_35 (by decide) (fun c_35 => absurd c_35 (by decide)) (fun c_35 => ?_)
    refine x_aload_n dX12_book_38 1 rfl ?_
    refine x_get (v := .ref 38) dX12_book_39 fX12_13 f156 (by decide) rfl ?_
    refine x_bipush (v := 20) dX12_book_42 (by decide) ?_
    refine x_callS (rf' := 0) (rl' := 0) [.int 20] [.ref 38] dX12_book_44 vX12_154 Y_X12_at rfl rfl (Nat.le_of_ble_eq_true rfl) (Nat.le_of_ble_eq_true rfl) (by decide) (by decide) (c_at (b := 20)) (fun _ _ e161 => ?_)
    cases e161
    refine x_iload_n dX12_book_47 0 rfl ?_
    refine x_iaddN (a := (484 * 20)) (b := 2) dX12_book_48 ?_
    refine x_iconst (v := 0) dX12_book_49 (by decide) ?_
    refine x_iastN (i := ((484 * 20) + 2)) dX12_book_50 a152 (by decide) (by omega) (by decide) (fun h162 a163 e164 l165 s166 => ?_)
    have f167 := (e164 36 (by decide)).trans f156
    have f168 := (e164 37 (by decide)).trans f157
    have f169 := (e164 39 (by decide)).trans f158
    have f170 := (e164 40 (by decide)).trans f159
    have sm171 := Sm.put sm160 e164 l165 s166 (by decide)
    refine x_iinc (lv2 := [(1, .int 3), (0, .ref 36)]) dX12_book_51 0 rfl (by decide) (by decide) rfl ?_
    refine x_goto (tgt := 33) dX12_book_54 (by decide) ?_
    refine x_iload_n dX12_book_33 0 rfl ?_
    refine x_iconst (v := 4) dX12_book_34 (by decide) ?_
    refine x_icmp_ge (tgt := 57) dX12_book_35 (by decide) (fun c_35 => absurd c_35 (by decide)) (fun c_35 => ?_)
    refine x_aload_n dX12_book_38 1 rfl ?_
    refine x_get (v := .ref 38) dX12_book_39 fX12_13 f167 (by decide) rfl ?_
    refine x_bipush (v := 20) dX12_book_42 (by decide) ?_
    refine x_callS (rf' := 0) (rl' := 0) [.int 20] [.ref 38] dX12_book_44 vX12_154 Y_X12_at rfl rfl (Nat.le_of_ble_eq_true rfl) (Nat.le_of_ble_eq_true rfl) (by decide) (by decide) (c_at (b := 20)) (fun _ _ e172 => ?_)
    cases e172
    refine x_iload_n dX12_book_47 0 rfl ?_
    refine x_iaddN (a := (484 * 20)) (b := 3) dX12_book_48 ?_
    refine x_iconst (v := 0) dX12_book_49 (by decide) ?_
    refine x_iastN (i := ((484 * 20) + 3)) dX12_book_50 a163 (by decide) (by omega) (by decide) (fun h173 a174 e175 l176 s177 => ?_)
    have f178 := (e175 36 (by decide)).trans f167
    have f179 := (e175 37 (by decide)).trans f168
    have f180 := (e175 39 (by decide)).trans f169
    have f181 := (e175 40 (by decide)).trans f170
    have sm182 := Sm.put sm171 e175 l176 s177 (by decide)
    refine x_iinc (lv2 := [(1, .int 4), (0, .ref 36)]) dX12_book_51 0 rfl (by decide) (by decide) rfl ?_
    refine x_goto (tgt := 33) dX12_book_54 (by decide) ?_
    refine x_iload_n dX12_book_33 0 rfl ?_
    refine x_iconst (v := 4) dX12_book_34 (by decide) ?_
    refine x_icmp_ge (tgt := 57) dX12_book_35 (by decide) (fun c_35 => ?_) (fun c_35 => absurd (by decide) c_35)
    refine x_aload_n dX12_book_57 1 rfl ?_
    refine x_iconst (v := 0) dX12_book_58 (by decide) ?_
    refine x_put (fs2 := (MO 0 0 ((nI (s_td s))) ((nI (s_n s))) ((nI (s_tn s))) 0 frm knd num sgn 0 plc wrd tld now lst pfo thk are ((s_br s)) ipd ((s_bs s)))) dX12_book_59 fX12_75 (Or.inl rfl) f178 (by decide) rfl rfl (Nat.le_of_ble_eq_true rfl) rfl (fun h183 a184 e185 l186 s187 => ?_)
    have f188 := (e185 37 (by decide)).trans f179
    have f189 := (e185 38 (by decide)).trans a174
    have f190 := (e185 39 (by decide)).trans f180
    have f191 := (e185 40 (by decide)).trans f181
    have sm192 := Sm.put sm182 e185 l186 s187 (by decide)
    refine x_iconst (v := 0) dX12_book_62 (by decide) ?_
    refine x_istore_n (lv2 := [(1, .int 0), (0, .ref 36)]) dX12_book_63 (by decide) rfl ?_
    refine x_aload_n dX12_book_64 1 rfl ?_
    obtain ⟨x, x0, x1, x2, x3, x4, x5, x6, x7, x8, x9, x10, x11⟩ : ∃ x : Nat → Int32, x 0 = 0 ∧ x 1 = 0 ∧ x 2 = (nI (s_td s)) ∧ x 3 = (nI (s_n s)) ∧ x 4 = now ∧ x 5 = lst ∧ x 6 = pfo ∧ x 7 = thk ∧ x 8 = are ∧ x 9 = (s_br s) ∧ x 10 = ipd ∧ x 11 = (s_bs s) := ⟨fun k => match k with | 0 => 0 | 1 => 0 | 2 => (nI (s_td s)) | 3 => (nI (s_n s)) | 4 => now | 5 => lst | 6 => pfo | 7 => thk | 8 => are | 9 => (s_br s) | 10 => ipd | _ => (s_bs s), rfl, rfl, rfl, rfl, rfl, rfl, rfl, rfl, rfl, rfl, rfl, rfl⟩
    have gx : h183[36]? = some (cO 12 (MO ((x 0)) ((x 1)) ((x 2)) ((x 3)) ((nI (s_tn s))) ((nI 0)) frm knd num sgn 0 plc wrd tld ((x 4)) ((x 5)) ((x 6)) ((x 7)) ((x 8)) ((x 9)) ((x 10)) ((x 11)))) := by rw [x0, x1, x2, x3, x4, x5, x6, x7, x8, x9, x10, x11]; exact a184
    refine x_callV (rf' := 1) (rl' := 21) [] [] dX12_book_65 vX12_148 Y_X12_go a184 (by decide) rfl rfl (Nat.le_of_ble_eq_true rfl) (Nat.le_of_ble_eq_true rfl) (by decide) (by decide) (c_go (i := 0) (p := 0) htn hv r1 (Nat.zero_le _) rfl gx f188) (fun r h193 e194 => ?_)
    obtain ⟨e0, hM0, smg⟩ := e194
    cases e0
    have smg : Sm [36] h183 h193 := smg
    have f195 := smg.at f188 (by decide)
    have f196 := smg.at f189 (by decide)
    have f197 := smg.at f190 (by decide)
    have f198 := smg.at f191 (by decide)
    have sm199 := sm192.tr (smg.wide (by decide))
    refine x_perm (lv2 := [(1, .int (nI 0)), (0, .ref 36)]) [0, 1] rfl ?_
    have hok0 : SgOk (0, [], (0, 0, 0, 0), R0) := ⟨⟨z0, Nat.zero_le _, z1, Nat.zero_le _, z2, Nat.zero_le _, z3, Nat.zero_le _, fun k hk => absurd hk (Nat.not_lt_zero k), fun k hk => absurd hk (Nat.not_lt_zero k), fun k hk => absurd hk (Nat.not_lt_zero k), fun k hk => absurd hk (Nat.not_lt_zero k)⟩, rfl, fun e he => absurd he (Nat.not_lt_zero e)⟩
    refine l_bookM (h0 := h193) (bk0 := bk) htn hv r1 f195 601 (0, [], (0, 0, 0, 0), R0) 0 h193 _ _ (Nat.le_refl _) (Nat.zero_le _) (Nat.le_refl _) hok0 Sm.rf hM0 ⟨_, f196, fun j hj => by rw [pk_un (by omega), pk_un (by omega), pk_un (by omega), pk_un (by omega)], fun j hj => congrFun hR0 j⟩ ⟨_, f198, fun s9 k hs hk => absurd hk (by unfold cS; simp), fun e he => absurd he (Nat.not_lt_zero e), fun e e2 he => absurd he (Nat.not_lt_zero e)⟩ (fun y n9 h7 plc7 tld7 hrun ok hn9 sm7 hM7 rg7 nb7 => ?_) (fun f9 h7 hrun sm7 mb rg7 nb7 => ?_)
    · obtain ⟨too7, frm7, knd7, num7, sgn7, wrd7, p36, -⟩ := hM7
      obtain ⟨bk7, p38, b1, b2⟩ := rg7
      obtain ⟨nm7, p40⟩ := nb7
      have p36 : h7[36]? = some (cO 12 (MO ((x 0)) ((x 1)) ((nI (s_td s))) ((nI (s_n s))) ((nI (s_tn s))) too7 frm7 knd7 num7 sgn7 0 plc7 wrd7 tld7 ((x 4)) ((x 5)) ((x 6)) ((x 7)) ((x 8)) ((x 9)) ((x 10)) ((x 11)))) := by rw [← x2, ← x3]; exact p36
      have hb : s_n s < 20 := by omega
      have eA : bkRun s R0 = .inr (y, n9) := by unfold bkRun; exact hrun
      have sm200 := sm199.tr (sm7.wide (by decide))
      have f201 := sm7.at f195 (by decide)
      have f202 := sm7.at f197 (by decide)
      refine x_iconst (v := 0) dX12_book_95 (by decide) ?_
      refine x_istore_n (lv2 := [(2, .int 0), (1, .int (nI n9)), (0, .ref 36)]) dX12_book_96 (by decide) rfl ?_
      refine x_perm (lv2 := [(2, .int (nI 0)), (1, .int (nI n9)), (0, .ref 36)]) [0, 1, 2] rfl ?_
      refine l_copy (h0 := h7) (b := s_n s) (bk := bk7) (tn := s_tn s) hb (by rw [← x2] at p36; exact p36) (fun h203 smc c38 => ?_) 484 0 h7 rfl (by decide) Sm.rf (by rw [cp_0]; exact p38)
      have f204 := smc.at p36 (by decide)
      have f205 := smc.at p40 (by decide)
      have f206 := smc.at f201 (by decide)
      have f207 := smc.at f202 (by decide)
      have sm208 := sm200.tr (smc.wide (by decide))
      refine x_aload_n dX12_book_136 1 rfl ?_
      refine x_get (v := .ref 39) dX12_book_137 fX12_16 f204 (by decide) rfl ?_
      refine x_aload_n dX12_book_140 1 rfl ?_
      refine x_get (v := .int (nI (s_n s))) dX12_book_141 fX12_205 f204 (by decide) rfl ?_
      refine x_aload_n dX12_book_144 1 rfl ?_
      refine x_get (v := .int (nI (s_td s))) dX12_book_145 fX12_69 f204 (by decide) rfl ?_
      refine x_iastN (i := (s_n s)) dX12_book_148 f207 (by decide) (by omega) (by decide) (fun h209 a210 e211 l212 s213 => ?_)
      have f214 := (e211 36 (by decide)).trans f204
      have f215 := (e211 38 (by decide)).trans c38
      have f216 := (e211 40 (by decide)).trans f205
      have f217 := (e211 37 (by decide)).trans f206
      have sm218 := Sm.put sm208 e211 l212 s213 (by decide)
      refine x_aload_n dX12_book_149 1 rfl ?_
      refine x_dup dX12_book_150 rfl ?_
      refine x_get (v := .int (nI (s_n s))) dX12_book_151 fX12_205 f214 (by decide) rfl ?_
      refine x_iconst (v := 1) dX12_book_154 (by decide) ?_
      refine x_iaddN (a := (s_n s)) (b := 1) dX12_book_155 ?_
      refine x_put (fs2 := (MO ((x 0)) ((x 1)) ((nI (s_td s))) ((nI ((s_n s) + 1))) ((nI (s_tn s))) too7 frm7 knd7 num7 sgn7 0 plc7 wrd7 tld7 ((x 4)) ((x 5)) ((x 6)) ((x 7)) ((x 8)) ((x 9)) ((x 10)) ((x 11)))) dX12_book_156 fX12_205 (Or.inl rfl) f214 (by decide) rfl rfl (Nat.le_of_ble_eq_true rfl) rfl (fun h219 a220 e221 l222 s223 => ?_)
      have f224 := (e221 38 (by decide)).trans f215
      have f225 := (e221 40 (by decide)).trans f216
      have f226 := (e221 37 (by decide)).trans f217
      have f227 := (e221 39 (by decide)).trans a210
      have sm228 := Sm.put sm218 e221 l222 s223 (by decide)
      refine x_iload_n dX12_book_159 0 rfl ?_
      exact x_iret dX12_book_160 rfl ⟨by unfold bkA; rw [if_neg (by omega), eA], by unfold bkS; rw [if_neg (by omega), eA]; exact moR (by rw [x0, x1, x4, x5, x6, x7, x8, x9, x10, x11] at a220; exact a220) f226 f224 f227 f225 (sm228.at f41 (by decide)) (sm228.at f42 (by decide)) (sm228.at f43 (by decide)) (sm228.at f44 (by decide)) (sm228.at f45 (by decide)) (sm228.at f46 (by decide)) (sm228.at f47 (by decide)) (sm228.at f48 (by decide)) (sm228.at f49 (by decide)) (fun j hj => absurd hj (Nat.not_lt_zero j)) (bk_r2 hb r2 b1 b2) r3, sm228⟩
    · obtain ⟨t1, t2, t3, t4, t5, t6, t7, p36⟩ := mb
      rw [x0, x1, x2, x3, x4, x5, x6, x7, x8, x9, x10, x11] at p36
      obtain ⟨bk7, p38, b1⟩ := rg7
      obtain ⟨nm7, p40⟩ := nb7
      have sm9 := sm199.tr (sm7.wide (by decide))
      have eA : bkRun s R0 = .inl f9 := by unfold bkRun; exact hrun
      refine ⟨by unfold bkA; rw [if_neg (by omega), eA], ?_, sm9⟩
      unfold bkS
      rw [if_neg (by omega), eA]
      exact moR p36 (sm7.at f195 (by decide)) p38 (sm7.at f197 (by decide)) p40 (sm9.at f41 (by decide)) (sm9.at f42 (by decide)) (sm9.at f43 (by decide)) (sm9.at f44 (by decide)) (sm9.at f45 (by decide)) (sm9.at f46 (by decide)) (sm9.at f47 (by decide)) (sm9.at f48 (by decide)) (sm9.at f49 (by decide)) (fun j hj => absurd hj (Nat.not_lt_zero j)) (fun k (hk : k < s_n s) => ⟨(r2 k hk).1, fun j hj => (b1 _ (by have := hW.1; omega)).trans ((r2 k hk).2 j hj)⟩) r3
  · refine x_sipush (v := (-1000)) dX12_book_22 (by decide) ?_
    exact x_iret dX12_book_25 rfl ⟨by unfold bkA; rw [if_pos (by omega)], by unfold bkS; rw [if_pos (by omega)]; exact moR (s := s_setTn s 0) a120 f124 f125 f126 f127 (sm128.at f41 (by decide)) (sm128.at f42 (by decide)) (sm128.at f43 (by decide)) (sm128.at f44 (by decide)) (sm128.at f45 (by decide)) (sm128.at f46 (by decide)) (sm128.at f47 (by decide)) (sm128.at f48 (by decide)) (sm128.at f49 (by decide)) (fun j hj => absurd hj (Nat.not_lt_zero j)) r2 r3, sm128⟩

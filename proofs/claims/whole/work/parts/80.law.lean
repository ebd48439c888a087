abbrev mL_law : MT := (yL_law, cL_law, 8, some .boolean)
theorem tvU_lt {tv : Nat → Nat} {n : Nat} (h : ∀ j, j < n → tv j < 256) {b : Nat} (hb : b < 256) : ∀ j, j < n + 1 → tvU tv n b j < 256 := fun j hj => by
  unfold tvU
  split
  · exact hb
  · exact h j (by omega)
theorem tvW_lt {tv : Nat → Nat} {n : Nat} {x : Int32} (h : ∀ j, j < n → tv j < 256) (hb : ∀ k, bq x k < 256) : ∀ j, j < n + 4 → tvW tv n x j < 256 := tvU_lt (tvU_lt (tvU_lt (tvU_lt h (hb 3)) (hb 2)) (hb 1)) (hb 0)
theorem ws_feed {s : ST} {a b c d e : Int32} (ws : WS s) : WS (s_setTp s (spFeedN (s_tn s)) (spFeedV (s_tv s) (s_tn s) a b c d e)) := by
  have h6 := ws.2.2.1
  refine ⟨ws.1, ws.2.1, ?_, ?_, ws.2.2.2.2⟩
  · show spFeedN (s_tn s) ≤ 640
    unfold spFeedN
    split <;> omega
  · show ∀ j, j < spFeedN (s_tn s) → spFeedV (s_tv s) (s_tn s) a b c d e j < 256
    unfold spFeedN spFeedV
    by_cases q : 640 < s_tn s + 20
    · rw [if_pos q, if_pos q]; exact ws.2.2.2.1
    · rw [if_neg q, if_neg q]
      exact tvW_lt (tvW_lt (tvW_lt (tvW_lt (tvW_lt ws.2.2.2.1 (bq_lt _)) (bq_lt _)) (bq_lt _)) (bq_lt _)) (bq_lt _)
theorem MoR.cell {h : List PE} {s : ST} (x : MoR h s) : ∃ fs, h[36]? = some (cO 12 fs) := by
  obtain ⟨thr, siz, too, frm, knd, num, sgn, plc, wrd, tld, now, lst, pfo, thk, are, ipd, mt, bk, dy, nm, cv, sv, k1, k2, k3, k4, k5, k6, k7, a0, -⟩ := x
  exact ⟨_, a0⟩
theorem MoR.b38 {h : List PE} {s : ST} (x : MoR h s) : ∃ bk : Nat → Int32, h[38]? = some (cI 10164 bk) := by
  obtain ⟨thr, siz, too, frm, knd, num, sgn, plc, wrd, tld, now, lst, pfo, thk, are, ipd, mt, bk, dy, nm, cv, sv, k1, k2, k3, k4, k5, k6, k7, a0, a1, a2, -⟩ := x
  exact ⟨_, a2⟩
/-- between the law's calls: n of them are done -/
def LI (h : List PE) (s : ST) (n : Nat) : Prop := CL h s ∧ MoR h s ∧ WS s ∧ (∃ out : Nat → Int64, h[50]? = some (cJ 1 out)) ∧ h.length ≤ 51 + 235 * n ∧ g_s h ≤ 20000 + 1274 * n
theorem LI.step {h h1 h2 : List PE} {s s1 : ST} {n : Nat} {L : List Nat} (x : LI h s n) (f : FrC h h1) (c : CL h1 s1) (sm : Sm L h1 h2) (hL : ∀ j, j ∈ L → 36 ≤ j ∧ j < 50) (m : MoR h2 s1) (w : WS s1) : LI h2 s1 (n + 1) := by
  obtain ⟨-, -, -, ⟨out, ho⟩, l1, l2⟩ := x
  refine ⟨c.kept sm hL, m, w, ⟨out, sm.at ((f.1 50 (Or.inr ⟨by decide, by decide⟩)).trans ho) (fun q => by have := hL 50 q; omega)⟩, ?_, ?_⟩
  · have := sm.1; have := f.2.2.1; omega
  · have := sm.2.1; have := f.2.2.2; omega

set_option maxRecDepth 100000 in
set_option maxHeartbeats 4000000 in
theorem law_0 {G : GT} {h : List PE} {s : ST} {n i : Nat} {Q : OT → Prop} (hL : g_L G ≤ 3584) (hi : i + 7 ≤ g_L G) (I : LI h s n) (KX : ∀ (h1 : List PE) (s1 : ST), LI h1 s1 (n + 1) → X (NF G) G mL_law 8 184 1240 [(4, .int (nI i)), (0, .ref 0), (1, .ref 3), (2, .ref 36), (3, .ref 50)] [] h1 Q) : X (NF G) G mL_law 8 184 152 [(4, .int (nI i)), (0, .ref 0), (1, .ref 3), (2, .ref 36), (3, .ref 50)] [] h Q := by
  obtain ⟨hc, hM, ws, hout, l1, l2⟩ := id I
  have g3 : h[3]? = some (cO 11 [.ref 4, .ref 6, .ref 15, .ref 16, .ref 21, .ref 25, .ref 32, .ref 35, .int (nI (s_n s)), .int (nI (s_td s)), .int (s_fl s), .int (s_br s)]) := hc.1
  refine x_aload_n dL_law_152 2 rfl ?_
  refine x_aload_n dL_law_153 1 rfl ?_
  refine x_iload dL_law_154 0 rfl ?_
  refine x_iconst (v := 1) dL_law_156 (by decide) ?_
  refine x_iaddN (a := i) (b := 1) dL_law_157 ?_
  refine x_sld dL_law_158 (vp_in_nI (by omega) (by omega)) ?_
  refine x_aload_n dL_law_159 1 rfl ?_
  refine x_iload dL_law_160 0 rfl ?_
  refine x_iconst (v := 2) dL_law_162 (by decide) ?_
  refine x_iaddN (a := i) (b := 2) dL_law_163 ?_
  refine x_sld dL_law_164 (vp_in_nI (by omega) (by omega)) ?_
  refine x_aload_n dL_law_165 1 rfl ?_
  refine x_iload dL_law_166 0 rfl ?_
  refine x_iconst (v := 3) dL_law_168 (by decide) ?_
  refine x_iaddN (a := i) (b := 3) dL_law_169 ?_
  refine x_sld dL_law_170 (vp_in_nI (by omega) (by omega)) ?_
  refine x_aload_n dL_law_171 1 rfl ?_
  refine x_iload dL_law_172 0 rfl ?_
  refine x_iconst (v := 4) dL_law_174 (by decide) ?_
  refine x_iaddN (a := i) (b := 4) dL_law_175 ?_
  refine x_sld dL_law_176 (vp_in_nI (by omega) (by omega)) ?_
  refine x_aload_n dL_law_177 1 rfl ?_
  refine x_iload dL_law_178 0 rfl ?_
  refine x_iconst (v := 5) dL_law_180 (by decide) ?_
  refine x_iaddN (a := i) (b := 5) dL_law_181 ?_
  refine x_sld dL_law_182 (vp_in_nI (by omega) (by omega)) ?_
  refine x_callV (rf' := 1) (rl' := 22) [.int (g_xs G (((nI (i + 1))).toNatClampNeg)), .int (g_xs G (((nI (i + 2))).toNatClampNeg)), .int (g_xs G (((nI (i + 3))).toNatClampNeg)), .int (g_xs G (((nI (i + 4))).toNatClampNeg)), .int (g_xs G (((nI (i + 5))).toNatClampNeg))] [] dL_law_183 vL_19 Y_X11_feed g3 (by decide) rfl rfl (Nat.le_of_ble_eq_true rfl) (Nat.le_of_ble_eq_true rfl) (by decide) (by decide) (k_feed hc ws) (fun r h1 e1 => ?_)
  obtain ⟨e0, hc1, fr⟩ := e1
  cases e0
  have fr : FrC h h1 := fr
  have hc1 : CL h1 (s_setTp s (spFeedN (s_tn s)) (spFeedV (s_tv s) (s_tn s) (g_xs G (((nI (i + 1))).toNatClampNeg)) (g_xs G (((nI (i + 2))).toNatClampNeg)) (g_xs G (((nI (i + 3))).toNatClampNeg)) (g_xs G (((nI (i + 4))).toNatClampNeg)) (g_xs G (((nI (i + 5))).toNatClampNeg)))) := hc1
  have hM1 := hM.frc fr
  obtain ⟨fs1, g36⟩ := hM1.cell
  refine x_aload_n dL_law_186 3 rfl ?_
  refine x_aload_n dL_law_187 1 rfl ?_
  refine x_iload dL_law_188 0 rfl ?_
  refine x_iconst (v := 1) dL_law_190 (by decide) ?_
  refine x_iaddN (a := i) (b := 1) dL_law_191 ?_
  refine x_sld dL_law_192 (vp_in_nI (by omega) (by omega)) ?_
  refine x_aload_n dL_law_193 1 rfl ?_
  refine x_iload dL_law_194 0 rfl ?_
  refine x_iconst (v := 2) dL_law_196 (by decide) ?_
  refine x_iaddN (a := i) (b := 2) dL_law_197 ?_
  refine x_sld dL_law_198 (vp_in_nI (by omega) (by omega)) ?_
  refine x_aload_n dL_law_199 1 rfl ?_
  refine x_iload dL_law_200 0 rfl ?_
  refine x_iconst (v := 3) dL_law_202 (by decide) ?_
  refine x_iaddN (a := i) (b := 3) dL_law_203 ?_
  refine x_sld dL_law_204 (vp_in_nI (by omega) (by omega)) ?_
  refine x_aload_n dL_law_205 1 rfl ?_
  refine x_iload dL_law_206 0 rfl ?_
  refine x_iconst (v := 4) dL_law_208 (by decide) ?_
  refine x_iaddN (a := i) (b := 4) dL_law_209 ?_
  refine x_sld dL_law_210 (vp_in_nI (by omega) (by omega)) ?_
  refine x_aload_n dL_law_211 1 rfl ?_
  refine x_iload dL_law_212 0 rfl ?_
  refine x_iconst (v := 5) dL_law_214 (by decide) ?_
  refine x_iaddN (a := i) (b := 5) dL_law_215 ?_
  refine x_sld dL_law_216 (vp_in_nI (by omega) (by omega)) ?_
  refine x_callV (rf' := 1) (rl' := 22) [.int (g_xs G (((nI (i + 1))).toNatClampNeg)), .int (g_xs G (((nI (i + 2))).toNatClampNeg)), .int (g_xs G (((nI (i + 3))).toNatClampNeg)), .int (g_xs G (((nI (i + 4))).toNatClampNeg)), .int (g_xs G (((nI (i + 5))).toNatClampNeg))] [.int (spFeed (s_tn s))] dL_law_217 vL_23 Y_X12_feed g36 (by decide) rfl rfl (Nat.le_of_ble_eq_true rfl) (Nat.le_of_ble_eq_true rfl) (by decide) (by decide) (m_feed hM1 ws) (fun r h2 e1 => ?_)
  obtain ⟨e0, hM2, sm2⟩ := e1
  cases e0
  refine x_icmp_eq (tgt := 1240) dL_law_220 (by decide) (fun c_220 => ?_) (fun c_220 => absurd rfl c_220)
  refine x_perm [0, 1, 2, 3, 4] rfl ?_
  exact KX h2 (s_setTp s (spFeedN (s_tn s)) (spFeedV (s_tv s) (s_tn s) (g_xs G (((nI (i + 1))).toNatClampNeg)) (g_xs G (((nI (i + 2))).toNatClampNeg)) (g_xs G (((nI (i + 3))).toNatClampNeg)) (g_xs G (((nI (i + 4))).toNatClampNeg)) (g_xs G (((nI (i + 5))).toNatClampNeg)))) (I.step fr hc1 sm2 (by decide) hM2 (ws_feed ws))

set_option maxRecDepth 100000 in
set_option maxHeartbeats 4000000 in
theorem law_1 {G : GT} {h : List PE} {s : ST} {n i : Nat} {Q : OT → Prop} (hL : g_L G ≤ 3584) (hi : i + 7 ≤ g_L G) (I : LI h s n) (KX : ∀ (h1 : List PE) (s1 : ST), LI h1 s1 (n + 1) → X (NF G) G mL_law 8 184 1240 [(4, .int (nI i)), (0, .ref 0), (1, .ref 3), (2, .ref 36), (3, .ref 50)] [] h1 Q) : X (NF G) G mL_law 8 184 225 [(4, .int (nI i)), (0, .ref 0), (1, .ref 3), (2, .ref 36), (3, .ref 50)] [] h Q := by
  obtain ⟨hc, hM, ws, hout, l1, l2⟩ := id I
  have g3 : h[3]? = some (cO 11 [.ref 4, .ref 6, .ref 15, .ref 16, .ref 21, .ref 25, .ref 32, .ref 35, .int (nI (s_n s)), .int (nI (s_td s)), .int (s_fl s), .int (s_br s)]) := hc.1
  refine x_aload_n dL_law_225 2 rfl ?_
  refine x_aload_n dL_law_226 1 rfl ?_
  refine x_iload dL_law_227 0 rfl ?_
  refine x_iconst (v := 1) dL_law_229 (by decide) ?_
  refine x_iaddN (a := i) (b := 1) dL_law_230 ?_
  refine x_sld dL_law_231 (vp_in_nI (by omega) (by omega)) ?_
  refine x_callV (rf' := 0) (rl' := 0) [.int (g_xs G (((nI (i + 1))).toNatClampNeg))] [] dL_law_232 vL_24 Y_X11_end g3 (by decide) rfl rfl (Nat.le_of_ble_eq_true rfl) (Nat.le_of_ble_eq_true rfl) (by decide) (by decide) (k_end hc ws) (fun r h1 e1 => ?_)
  obtain ⟨e0, hc1, fr⟩ := e1
  cases e0
  have fr : FrC h h1 := fr
  have hc1 : CL h1 (s_setTn s (spEndN (s_tn s) (g_xs G (((nI (i + 1))).toNatClampNeg)))) := hc1
  have hM1 := hM.frc fr
  obtain ⟨fs1, g36⟩ := hM1.cell
  refine x_aload_n dL_law_235 3 rfl ?_
  refine x_aload_n dL_law_236 1 rfl ?_
  refine x_iload dL_law_237 0 rfl ?_
  refine x_iconst (v := 1) dL_law_239 (by decide) ?_
  refine x_iaddN (a := i) (b := 1) dL_law_240 ?_
  refine x_sld dL_law_241 (vp_in_nI (by omega) (by omega)) ?_
  refine x_callV (rf' := 0) (rl' := 0) [.int (g_xs G (((nI (i + 1))).toNatClampNeg))] [.int (spEnd (s_tn s) (g_xs G (((nI (i + 1))).toNatClampNeg)))] dL_law_242 vL_28 Y_X12_end g36 (by decide) rfl rfl (Nat.le_of_ble_eq_true rfl) (Nat.le_of_ble_eq_true rfl) (by decide) (by decide) (m_end hM1 ws) (fun r h2 e1 => ?_)
  obtain ⟨e0, hM2, sm2⟩ := e1
  cases e0
  refine x_icmp_eq (tgt := 1240) dL_law_245 (by decide) (fun c_245 => ?_) (fun c_245 => absurd rfl c_245)
  refine x_perm [0, 1, 2, 3, 4] rfl ?_
  exact KX h2 (s_setTn s (spEndN (s_tn s) (g_xs G (((nI (i + 1))).toNatClampNeg)))) (I.step fr hc1 sm2 (by decide) hM2 (ws_end ws))

set_option maxRecDepth 100000 in
set_option maxHeartbeats 4000000 in
theorem law_2 {G : GT} {h : List PE} {s : ST} {n i : Nat} {Q : OT → Prop} (hL : g_L G ≤ 3584) (hi : i + 7 ≤ g_L G) (I : LI h s n) (KX : ∀ (h1 : List PE) (s1 : ST), LI h1 s1 (n + 1) → X (NF G) G mL_law 8 184 1240 [(4, .int (nI i)), (0, .ref 0), (1, .ref 3), (2, .ref 36), (3, .ref 50)] [] h1 Q) : X (NF G) G mL_law 8 184 250 [(4, .int (nI i)), (0, .ref 0), (1, .ref 3), (2, .ref 36), (3, .ref 50)] [] h Q := by
  obtain ⟨hc, hM, ws, hout, l1, l2⟩ := id I
  have g3 : h[3]? = some (cO 11 [.ref 4, .ref 6, .ref 15, .ref 16, .ref 21, .ref 25, .ref 32, .ref 35, .int (nI (s_n s)), .int (nI (s_td s)), .int (s_fl s), .int (s_br s)]) := hc.1
  refine x_aload_n dL_law_250 2 rfl ?_
  refine x_aload_n dL_law_251 1 rfl ?_
  refine x_iload dL_law_252 0 rfl ?_
  refine x_iconst (v := 1) dL_law_254 (by decide) ?_
  refine x_iaddN (a := i) (b := 1) dL_law_255 ?_
  refine x_sld dL_law_256 (vp_in_nI (by omega) (by omega)) ?_
  refine x_callV (rf' := 0) (rl' := 0) [.int (g_xs G (((nI (i + 1))).toNatClampNeg))] [] dL_law_257 vL_29 Y_X11_next g3 (by decide) rfl rfl (Nat.le_of_ble_eq_true rfl) (Nat.le_of_ble_eq_true rfl) (by decide) (by decide) (k_next hc ws) (fun r h1 e1 => ?_)
  obtain ⟨e0, hc1, fr⟩ := e1
  cases e0
  have fr : FrC h h1 := fr
  have hc1 : CL h1 (s_setTd s (spNextN (s_td s) (g_xs G (((nI (i + 1))).toNatClampNeg)))) := hc1
  have hM1 := hM.frc fr
  obtain ⟨fs1, g36⟩ := hM1.cell
  refine x_aload_n dL_law_260 3 rfl ?_
  refine x_aload_n dL_law_261 1 rfl ?_
  refine x_iload dL_law_262 0 rfl ?_
  refine x_iconst (v := 1) dL_law_264 (by decide) ?_
  refine x_iaddN (a := i) (b := 1) dL_law_265 ?_
  refine x_sld dL_law_266 (vp_in_nI (by omega) (by omega)) ?_
  refine x_callV (rf' := 1) (rl' := 22) [.int (g_xs G (((nI (i + 1))).toNatClampNeg))] [.int (spNext (s_td s) (g_xs G (((nI (i + 1))).toNatClampNeg)))] dL_law_267 vL_33 Y_X12_next g36 (by decide) rfl rfl (Nat.le_of_ble_eq_true rfl) (Nat.le_of_ble_eq_true rfl) (by decide) (by decide) (m_next hM1 ws) (fun r h2 e1 => ?_)
  obtain ⟨e0, hM2, sm2⟩ := e1
  cases e0
  refine x_icmp_eq (tgt := 1240) dL_law_270 (by decide) (fun c_270 => ?_) (fun c_270 => absurd rfl c_270)
  refine x_perm [0, 1, 2, 3, 4] rfl ?_
  exact KX h2 (s_setTd s (spNextN (s_td s) (g_xs G (((nI (i + 1))).toNatClampNeg)))) (I.step fr hc1 sm2 (by decide) hM2 (ws_next ws))

set_option maxRecDepth 100000 in
set_option maxHeartbeats 4000000 in
theorem law_3 {G : GT} {h : List PE} {s : ST} {n i : Nat} {Q : OT → Prop} (hL : g_L G ≤ 3584) (hi : i + 7 ≤ g_L G) (I : LI h s n) (KX : ∀ (h1 : List PE) (s1 : ST), LI h1 s1 (n + 1) → X (NF G) G mL_law 8 184 1240 [(4, .int (nI i)), (0, .ref 0), (1, .ref 3), (2, .ref 36), (3, .ref 50)] [] h1 Q) : X (NF G) G mL_law 8 184 275 [(4, .int (nI i)), (0, .ref 0), (1, .ref 3), (2, .ref 36), (3, .ref 50)] [] h Q := by
  obtain ⟨hc, hM, ws, hout, l1, l2⟩ := id I
  have g3 : h[3]? = some (cO 11 [.ref 4, .ref 6, .ref 15, .ref 16, .ref 21, .ref 25, .ref 32, .ref 35, .int (nI (s_n s)), .int (nI (s_td s)), .int (s_fl s), .int (s_br s)]) := hc.1
  refine x_aload_n dL_law_275 2 rfl ?_
  obtain ⟨bk, e38⟩ := hM.b38
  refine x_callV (rf' := 6) (rl' := 135) [] [] dL_law_276 vL_34 Y_X11_book g3 (by decide) rfl rfl (Nat.le_of_ble_eq_true rfl) (Nat.le_of_ble_eq_true rfl) (by decide) (by decide) (k_book (R0 := rz0 bk) hc ws (rz0_0 bk)) (fun r h1 e1 => ?_)
  obtain ⟨e0, hc1, ws1, fr⟩ := e1
  cases e0
  have fr : FrC h h1 := fr
  have hc1 : CL h1 (bkS s (rz0 bk)) := hc1
  have hM1 := hM.frc fr
  obtain ⟨fs1, g36⟩ := hM1.cell
  refine x_aload_n dL_law_279 3 rfl ?_
  have e381 := (fr.1 38 (Or.inr ⟨by decide, by decide⟩)).trans e38
  refine x_callV (rf' := 7) (rl' := 157) [] [.int (bkA s (rz0 bk))] dL_law_280 vL_38 Y_X12_book g36 (by decide) rfl rfl (Nat.le_of_ble_eq_true rfl) (Nat.le_of_ble_eq_true rfl) (by decide) (by decide) (m_book hM1 ws e381) (fun r h2 e1 => ?_)
  obtain ⟨e0, hM2, sm2⟩ := e1
  cases e0
  refine x_icmp_eq (tgt := 1240) dL_law_283 (by decide) (fun c_283 => ?_) (fun c_283 => absurd rfl c_283)
  refine x_perm [0, 1, 2, 3, 4] rfl ?_
  exact KX h2 (bkS s (rz0 bk)) (I.step fr hc1 sm2 (by decide) hM2 (ws1))

set_option maxRecDepth 100000 in
set_option maxHeartbeats 4000000 in
theorem law_4 {G : GT} {h : List PE} {s : ST} {n i : Nat} {Q : OT → Prop} (hL : g_L G ≤ 3584) (hi : i + 7 ≤ g_L G) (I : LI h s n) (KX : ∀ (h1 : List PE) (s1 : ST), LI h1 s1 (n + 1) → X (NF G) G mL_law 8 184 1240 [(4, .int (nI i)), (0, .ref 0), (1, .ref 3), (2, .ref 36), (3, .ref 50)] [] h1 Q) : X (NF G) G mL_law 8 184 288 [(4, .int (nI i)), (0, .ref 0), (1, .ref 3), (2, .ref 36), (3, .ref 50)] [] h Q := by
  obtain ⟨hc, hM, ws, hout, l1, l2⟩ := id I
  have g3 : h[3]? = some (cO 11 [.ref 4, .ref 6, .ref 15, .ref 16, .ref 21, .ref 25, .ref 32, .ref 35, .int (nI (s_n s)), .int (nI (s_td s)), .int (s_fl s), .int (s_br s)]) := hc.1
  refine x_aload_n dL_law_288 2 rfl ?_
  refine x_callV (rf' := 0) (rl' := 0) [] [] dL_law_289 vL_39 Y_X11_fault g3 (by decide) rfl rfl (Nat.le_of_ble_eq_true rfl) (Nat.le_of_ble_eq_true rfl) (by decide) (by decide) (k_fault hc ws) (fun r h1 e1 => ?_)
  obtain ⟨e0, hc1, fr⟩ := e1
  cases e0
  have fr : FrC h h1 := fr
  have hc1 : CL h1 (s) := hc1
  have hM1 := hM.frc fr
  obtain ⟨fs1, g36⟩ := hM1.cell
  refine x_aload_n dL_law_292 3 rfl ?_
  refine x_callV (rf' := 0) (rl' := 0) [] [.int (s_fl s)] dL_law_293 vL_42 Y_X12_fault g36 (by decide) rfl rfl (Nat.le_of_ble_eq_true rfl) (Nat.le_of_ble_eq_true rfl) (by decide) (by decide) (m_fault hM1) (fun r h2 e1 => ?_)
  obtain ⟨e0, hM2, sm2⟩ := e1
  cases e0
  refine x_icmp_eq (tgt := 1240) dL_law_296 (by decide) (fun c_296 => ?_) (fun c_296 => absurd rfl c_296)
  refine x_perm [0, 1, 2, 3, 4] rfl ?_
  exact KX h2 (s) (I.step fr hc1 sm2 (by decide) hM2 (ws))

set_option maxRecDepth 100000 in
set_option maxHeartbeats 4000000 in
theorem law_5 {G : GT} {h : List PE} {s : ST} {n i : Nat} {Q : OT → Prop} (hL : g_L G ≤ 3584) (hi : i + 7 ≤ g_L G) (I : LI h s n) (KX : ∀ (h1 : List PE) (s1 : ST), LI h1 s1 (n + 1) → X (NF G) G mL_law 8 184 1240 [(4, .int (nI i)), (0, .ref 0), (1, .ref 3), (2, .ref 36), (3, .ref 50)] [] h1 Q) : X (NF G) G mL_law 8 184 301 [(4, .int (nI i)), (0, .ref 0), (1, .ref 3), (2, .ref 36), (3, .ref 50)] [] h Q := by
  obtain ⟨hc, hM, ws, hout, l1, l2⟩ := id I
  have g3 : h[3]? = some (cO 11 [.ref 4, .ref 6, .ref 15, .ref 16, .ref 21, .ref 25, .ref 32, .ref 35, .int (nI (s_n s)), .int (nI (s_td s)), .int (s_fl s), .int (s_br s)]) := hc.1
  refine x_aload_n dL_law_301 2 rfl ?_
  refine x_aload_n dL_law_302 1 rfl ?_
  refine x_iload dL_law_303 0 rfl ?_
  refine x_iconst (v := 1) dL_law_305 (by decide) ?_
  refine x_iaddN (a := i) (b := 1) dL_law_306 ?_
  refine x_sld dL_law_307 (vp_in_nI (by omega) (by omega)) ?_
  refine x_aload_n dL_law_308 1 rfl ?_
  refine x_iload dL_law_309 0 rfl ?_
  refine x_iconst (v := 2) dL_law_311 (by decide) ?_
  refine x_iaddN (a := i) (b := 2) dL_law_312 ?_
  refine x_sld dL_law_313 (vp_in_nI (by omega) (by omega)) ?_
  refine x_callV (rf' := 2) (rl' := 43) [.int (g_xs G (((nI (i + 1))).toNatClampNeg)), .int (g_xs G (((nI (i + 2))).toNatClampNeg))] [] dL_law_314 vL_43 Y_X11_many g3 (by decide) rfl rfl (Nat.le_of_ble_eq_true rfl) (Nat.le_of_ble_eq_true rfl) (by decide) (by decide) (k_many hc ws) (fun r h1 e1 => ?_)
  obtain ⟨e0, hc1, fr⟩ := e1
  cases e0
  have fr : FrC h h1 := fr
  have hc1 : CL h1 (s) := hc1
  have hM1 := hM.frc fr
  obtain ⟨fs1, g36⟩ := hM1.cell
  refine x_aload_n dL_law_317 3 rfl ?_
  refine x_aload_n dL_law_318 1 rfl ?_
  refine x_iload dL_law_319 0 rfl ?_
  refine x_iconst (v := 1) dL_law_321 (by decide) ?_
  refine x_iaddN (a := i) (b := 1) dL_law_322 ?_
  refine x_sld dL_law_323 (vp_in_nI (by omega) (by omega)) ?_
  refine x_aload_n dL_law_324 1 rfl ?_
  refine x_iload dL_law_325 0 rfl ?_
  refine x_iconst (v := 2) dL_law_327 (by decide) ?_
  refine x_iaddN (a := i) (b := 2) dL_law_328 ?_
  refine x_sld dL_law_329 (vp_in_nI (by omega) (by omega)) ?_
  refine x_callV (rf' := 2) (rl' := 42) [.int (g_xs G (((nI (i + 1))).toNatClampNeg)), .int (g_xs G (((nI (i + 2))).toNatClampNeg))] [.int (spMany (sC s (g_xs G (((nI (i + 2))).toNatClampNeg))) (g_xs G (((nI (i + 1))).toNatClampNeg)))] dL_law_330 vL_47 Y_X12_many g36 (by decide) rfl rfl (Nat.le_of_ble_eq_true rfl) (Nat.le_of_ble_eq_true rfl) (by decide) (by decide) (m_many hM1 ws) (fun r h2 e1 => ?_)
  obtain ⟨e0, hM2, sm2⟩ := e1
  cases e0
  refine x_icmp_eq (tgt := 1240) dL_law_333 (by decide) (fun c_333 => ?_) (fun c_333 => absurd rfl c_333)
  refine x_perm [0, 1, 2, 3, 4] rfl ?_
  exact KX h2 (s) (I.step fr hc1 sm2 (by decide) hM2 (ws))

set_option maxRecDepth 100000 in
set_option maxHeartbeats 4000000 in
theorem law_6 {G : GT} {h : List PE} {s : ST} {n i : Nat} {Q : OT → Prop} (hL : g_L G ≤ 3584) (hi : i + 7 ≤ g_L G) (I : LI h s n) (KX : ∀ (h1 : List PE) (s1 : ST), LI h1 s1 (n + 1) → X (NF G) G mL_law 8 184 1240 [(4, .int (nI i)), (0, .ref 0), (1, .ref 3), (2, .ref 36), (3, .ref 50)] [] h1 Q) : X (NF G) G mL_law 8 184 338 [(4, .int (nI i)), (0, .ref 0), (1, .ref 3), (2, .ref 36), (3, .ref 50)] [] h Q := by
  obtain ⟨hc, hM, ws, hout, l1, l2⟩ := id I
  have g3 : h[3]? = some (cO 11 [.ref 4, .ref 6, .ref 15, .ref 16, .ref 21, .ref 25, .ref 32, .ref 35, .int (nI (s_n s)), .int (nI (s_td s)), .int (s_fl s), .int (s_br s)]) := hc.1
  refine x_aload_n dL_law_338 2 rfl ?_
  refine x_aload_n dL_law_339 1 rfl ?_
  refine x_iload dL_law_340 0 rfl ?_
  refine x_iconst (v := 1) dL_law_342 (by decide) ?_
  refine x_iaddN (a := i) (b := 1) dL_law_343 ?_
  refine x_sld dL_law_344 (vp_in_nI (by omega) (by omega)) ?_
  refine x_aload_n dL_law_345 1 rfl ?_
  refine x_iload dL_law_346 0 rfl ?_
  refine x_iconst (v := 2) dL_law_348 (by decide) ?_
  refine x_iaddN (a := i) (b := 2) dL_law_349 ?_
  refine x_sld dL_law_350 (vp_in_nI (by omega) (by omega)) ?_
  refine x_aload_n dL_law_351 1 rfl ?_
  refine x_iload dL_law_352 0 rfl ?_
  refine x_iconst (v := 3) dL_law_354 (by decide) ?_
  refine x_iaddN (a := i) (b := 3) dL_law_355 ?_
  refine x_sld dL_law_356 (vp_in_nI (by omega) (by omega)) ?_
  refine x_aload_n dL_law_357 1 rfl ?_
  refine x_iload dL_law_358 0 rfl ?_
  refine x_iconst (v := 4) dL_law_360 (by decide) ?_
  refine x_iaddN (a := i) (b := 4) dL_law_361 ?_
  refine x_sld dL_law_362 (vp_in_nI (by omega) (by omega)) ?_
  refine x_callV (rf' := 2) (rl' := 43) [.int (g_xs G (((nI (i + 1))).toNatClampNeg)), .int (g_xs G (((nI (i + 2))).toNatClampNeg)), .int (g_xs G (((nI (i + 3))).toNatClampNeg)), .int (g_xs G (((nI (i + 4))).toNatClampNeg))] [] dL_law_363 vL_48 Y_X11_push g3 (by decide) rfl rfl (Nat.le_of_ble_eq_true rfl) (Nat.le_of_ble_eq_true rfl) (by decide) (by decide) (k_push hc ws) (fun r h1 e1 => ?_)
  obtain ⟨e0, hc1, fr⟩ := e1
  cases e0
  have fr : FrC h h1 := fr
  have hc1 : CL h1 (s) := hc1
  have hM1 := hM.frc fr
  obtain ⟨fs1, g36⟩ := hM1.cell
  refine x_aload_n dL_law_366 3 rfl ?_
  refine x_aload_n dL_law_367 1 rfl ?_
  refine x_iload dL_law_368 0 rfl ?_
  refine x_iconst (v := 1) dL_law_370 (by decide) ?_
  refine x_iaddN (a := i) (b := 1) dL_law_371 ?_
  refine x_sld dL_law_372 (vp_in_nI (by omega) (by omega)) ?_
  refine x_aload_n dL_law_373 1 rfl ?_
  refine x_iload dL_law_374 0 rfl ?_
  refine x_iconst (v := 2) dL_law_376 (by decide) ?_
  refine x_iaddN (a := i) (b := 2) dL_law_377 ?_
  refine x_sld dL_law_378 (vp_in_nI (by omega) (by omega)) ?_
  refine x_aload_n dL_law_379 1 rfl ?_
  refine x_iload dL_law_380 0 rfl ?_
  refine x_iconst (v := 3) dL_law_382 (by decide) ?_
  refine x_iaddN (a := i) (b := 3) dL_law_383 ?_
  refine x_sld dL_law_384 (vp_in_nI (by omega) (by omega)) ?_
  refine x_aload_n dL_law_385 1 rfl ?_
  refine x_iload dL_law_386 0 rfl ?_
  refine x_iconst (v := 4) dL_law_388 (by decide) ?_
  refine x_iaddN (a := i) (b := 4) dL_law_389 ?_
  refine x_sld dL_law_390 (vp_in_nI (by omega) (by omega)) ?_
  refine x_callV (rf' := 3) (rl' := 65) [.int (g_xs G (((nI (i + 1))).toNatClampNeg)), .int (g_xs G (((nI (i + 2))).toNatClampNeg)), .int (g_xs G (((nI (i + 3))).toNatClampNeg)), .int (g_xs G (((nI (i + 4))).toNatClampNeg))] [.int (spPush (sR s (g_xs G (((nI (i + 4))).toNatClampNeg))) (sC s (g_xs G (((nI (i + 4))).toNatClampNeg))) (g_xs G (((nI (i + 1))).toNatClampNeg)) (g_xs G (((nI (i + 2))).toNatClampNeg)) (g_xs G (((nI (i + 3))).toNatClampNeg)))] dL_law_391 vL_52 Y_X12_push g36 (by decide) rfl rfl (Nat.le_of_ble_eq_true rfl) (Nat.le_of_ble_eq_true rfl) (by decide) (by decide) (m_push hM1 ws) (fun r h2 e1 => ?_)
  obtain ⟨e0, hM2, sm2⟩ := e1
  cases e0
  refine x_icmp_eq (tgt := 1240) dL_law_394 (by decide) (fun c_394 => ?_) (fun c_394 => absurd rfl c_394)
  refine x_perm [0, 1, 2, 3, 4] rfl ?_
  exact KX h2 (s) (I.step fr hc1 sm2 (by decide) hM2 (ws))

set_option maxRecDepth 100000 in
set_option maxHeartbeats 4000000 in
theorem law_7 {G : GT} {h : List PE} {s : ST} {n i : Nat} {Q : OT → Prop} (hL : g_L G ≤ 3584) (hi : i + 7 ≤ g_L G) (I : LI h s n) (KX : ∀ (h1 : List PE) (s1 : ST), LI h1 s1 (n + 1) → X (NF G) G mL_law 8 184 1240 [(4, .int (nI i)), (0, .ref 0), (1, .ref 3), (2, .ref 36), (3, .ref 50)] [] h1 Q) : X (NF G) G mL_law 8 184 399 [(4, .int (nI i)), (0, .ref 0), (1, .ref 3), (2, .ref 36), (3, .ref 50)] [] h Q := by
  obtain ⟨hc, hM, ws, hout, l1, l2⟩ := id I
  have g3 : h[3]? = some (cO 11 [.ref 4, .ref 6, .ref 15, .ref 16, .ref 21, .ref 25, .ref 32, .ref 35, .int (nI (s_n s)), .int (nI (s_td s)), .int (s_fl s), .int (s_br s)]) := hc.1
  refine x_aload_n dL_law_399 2 rfl ?_
  refine x_aload_n dL_law_400 1 rfl ?_
  refine x_iload dL_law_401 0 rfl ?_
  refine x_iconst (v := 1) dL_law_403 (by decide) ?_
  refine x_iaddN (a := i) (b := 1) dL_law_404 ?_
  refine x_sld dL_law_405 (vp_in_nI (by omega) (by omega)) ?_
  refine x_aload_n dL_law_406 1 rfl ?_
  refine x_iload dL_law_407 0 rfl ?_
  refine x_iconst (v := 2) dL_law_409 (by decide) ?_
  refine x_iaddN (a := i) (b := 2) dL_law_410 ?_
  refine x_sld dL_law_411 (vp_in_nI (by omega) (by omega)) ?_
  refine x_aload_n dL_law_412 1 rfl ?_
  refine x_iload dL_law_413 0 rfl ?_
  refine x_iconst (v := 3) dL_law_415 (by decide) ?_
  refine x_iaddN (a := i) (b := 3) dL_law_416 ?_
  refine x_sld dL_law_417 (vp_in_nI (by omega) (by omega)) ?_
  refine x_aload_n dL_law_418 1 rfl ?_
  refine x_iload dL_law_419 0 rfl ?_
  refine x_iconst (v := 4) dL_law_421 (by decide) ?_
  refine x_iaddN (a := i) (b := 4) dL_law_422 ?_
  refine x_sld dL_law_423 (vp_in_nI (by omega) (by omega)) ?_
  refine x_aload_n dL_law_424 1 rfl ?_
  refine x_iload dL_law_425 0 rfl ?_
  refine x_iconst (v := 5) dL_law_427 (by decide) ?_
  refine x_iaddN (a := i) (b := 5) dL_law_428 ?_
  refine x_sld dL_law_429 (vp_in_nI (by omega) (by omega)) ?_
  refine x_callV (rf' := 5) (rl' := 110) [.int (g_xs G (((nI (i + 1))).toNatClampNeg)), .int (g_xs G (((nI (i + 2))).toNatClampNeg)), .int (g_xs G (((nI (i + 3))).toNatClampNeg)), .int (g_xs G (((nI (i + 4))).toNatClampNeg)), .int (g_xs G (((nI (i + 5))).toNatClampNeg))] [] dL_law_430 vL_53 Y_X11_squeeze g3 (by decide) rfl rfl (Nat.le_of_ble_eq_true rfl) (Nat.le_of_ble_eq_true rfl) (by decide) (by decide) (k_squeeze hc ws) (fun r h1 e1 => ?_)
  obtain ⟨e0, hc1, fr⟩ := e1
  cases e0
  have fr : FrC h h1 := fr
  have hc1 : CL h1 (s) := hc1
  have hM1 := hM.frc fr
  obtain ⟨fs1, g36⟩ := hM1.cell
  refine x_aload_n dL_law_433 3 rfl ?_
  refine x_aload_n dL_law_434 1 rfl ?_
  refine x_iload dL_law_435 0 rfl ?_
  refine x_iconst (v := 1) dL_law_437 (by decide) ?_
  refine x_iaddN (a := i) (b := 1) dL_law_438 ?_
  refine x_sld dL_law_439 (vp_in_nI (by omega) (by omega)) ?_
  refine x_aload_n dL_law_440 1 rfl ?_
  refine x_iload dL_law_441 0 rfl ?_
  refine x_iconst (v := 2) dL_law_443 (by decide) ?_
  refine x_iaddN (a := i) (b := 2) dL_law_444 ?_
  refine x_sld dL_law_445 (vp_in_nI (by omega) (by omega)) ?_
  refine x_aload_n dL_law_446 1 rfl ?_
  refine x_iload dL_law_447 0 rfl ?_
  refine x_iconst (v := 3) dL_law_449 (by decide) ?_
  refine x_iaddN (a := i) (b := 3) dL_law_450 ?_
  refine x_sld dL_law_451 (vp_in_nI (by omega) (by omega)) ?_
  refine x_aload_n dL_law_452 1 rfl ?_
  refine x_iload dL_law_453 0 rfl ?_
  refine x_iconst (v := 4) dL_law_455 (by decide) ?_
  refine x_iaddN (a := i) (b := 4) dL_law_456 ?_
  refine x_sld dL_law_457 (vp_in_nI (by omega) (by omega)) ?_
  refine x_aload_n dL_law_458 1 rfl ?_
  refine x_iload dL_law_459 0 rfl ?_
  refine x_iconst (v := 5) dL_law_461 (by decide) ?_
  refine x_iaddN (a := i) (b := 5) dL_law_462 ?_
  refine x_sld dL_law_463 (vp_in_nI (by omega) (by omega)) ?_
  refine x_callV (rf' := 4) (rl' := 89) [.int (g_xs G (((nI (i + 1))).toNatClampNeg)), .int (g_xs G (((nI (i + 2))).toNatClampNeg)), .int (g_xs G (((nI (i + 3))).toNatClampNeg)), .int (g_xs G (((nI (i + 4))).toNatClampNeg)), .int (g_xs G (((nI (i + 5))).toNatClampNeg))] [.int (spSq (sR s (g_xs G (((nI (i + 5))).toNatClampNeg))) (sC s (g_xs G (((nI (i + 5))).toNatClampNeg))) (g_xs G (((nI (i + 1))).toNatClampNeg)) (g_xs G (((nI (i + 2))).toNatClampNeg)) (g_xs G (((nI (i + 3))).toNatClampNeg)) (g_xs G (((nI (i + 4))).toNatClampNeg)))] dL_law_464 vL_56 Y_X12_squeeze g36 (by decide) rfl rfl (Nat.le_of_ble_eq_true rfl) (Nat.le_of_ble_eq_true rfl) (by decide) (by decide) (m_squeeze hM1 ws) (fun r h2 e1 => ?_)
  obtain ⟨e0, hM2, sm2⟩ := e1
  cases e0
  refine x_icmp_eq (tgt := 1240) dL_law_467 (by decide) (fun c_467 => ?_) (fun c_467 => absurd rfl c_467)
  refine x_perm [0, 1, 2, 3, 4] rfl ?_
  exact KX h2 (s) (I.step fr hc1 sm2 (by decide) hM2 (ws))

set_option maxRecDepth 100000 in
set_option maxHeartbeats 4000000 in
theorem law_8 {G : GT} {h : List PE} {s : ST} {n i : Nat} {Q : OT → Prop} (hL : g_L G ≤ 3584) (hi : i + 7 ≤ g_L G) (I : LI h s n) (KX : ∀ (h1 : List PE) (s1 : ST), LI h1 s1 (n + 1) → X (NF G) G mL_law 8 184 1240 [(4, .int (nI i)), (0, .ref 0), (1, .ref 3), (2, .ref 36), (3, .ref 50)] [] h1 Q) : X (NF G) G mL_law 8 184 472 [(4, .int (nI i)), (0, .ref 0), (1, .ref 3), (2, .ref 36), (3, .ref 50)] [] h Q := by
  obtain ⟨hc, hM, ws, hout, l1, l2⟩ := id I
  have g3 : h[3]? = some (cO 11 [.ref 4, .ref 6, .ref 15, .ref 16, .ref 21, .ref 25, .ref 32, .ref 35, .int (nI (s_n s)), .int (nI (s_td s)), .int (s_fl s), .int (s_br s)]) := hc.1
  refine x_aload_n dL_law_472 2 rfl ?_
  refine x_aload_n dL_law_473 1 rfl ?_
  refine x_iload dL_law_474 0 rfl ?_
  refine x_iconst (v := 1) dL_law_476 (by decide) ?_
  refine x_iaddN (a := i) (b := 1) dL_law_477 ?_
  refine x_sld dL_law_478 (vp_in_nI (by omega) (by omega)) ?_
  refine x_aload_n dL_law_479 1 rfl ?_
  refine x_iload dL_law_480 0 rfl ?_
  refine x_iconst (v := 2) dL_law_482 (by decide) ?_
  refine x_iaddN (a := i) (b := 2) dL_law_483 ?_
  refine x_sld dL_law_484 (vp_in_nI (by omega) (by omega)) ?_
  refine x_aload_n dL_law_485 1 rfl ?_
  refine x_iload dL_law_486 0 rfl ?_
  refine x_iconst (v := 3) dL_law_488 (by decide) ?_
  refine x_iaddN (a := i) (b := 3) dL_law_489 ?_
  refine x_sld dL_law_490 (vp_in_nI (by omega) (by omega)) ?_
  refine x_aload_n dL_law_491 1 rfl ?_
  refine x_iload dL_law_492 0 rfl ?_
  refine x_iconst (v := 4) dL_law_494 (by decide) ?_
  refine x_iaddN (a := i) (b := 4) dL_law_495 ?_
  refine x_sld dL_law_496 (vp_in_nI (by omega) (by omega)) ?_
  refine x_aload_n dL_law_497 1 rfl ?_
  refine x_iload dL_law_498 0 rfl ?_
  refine x_iconst (v := 5) dL_law_500 (by decide) ?_
  refine x_iaddN (a := i) (b := 5) dL_law_501 ?_
  refine x_sld dL_law_502 (vp_in_nI (by omega) (by omega)) ?_
  refine x_callV (rf' := 5) (rl' := 110) [.int (g_xs G (((nI (i + 1))).toNatClampNeg)), .int (g_xs G (((nI (i + 2))).toNatClampNeg)), .int (g_xs G (((nI (i + 3))).toNatClampNeg)), .int (g_xs G (((nI (i + 4))).toNatClampNeg)), .int (g_xs G (((nI (i + 5))).toNatClampNeg))] [] dL_law_503 vL_57 Y_X11_blow g3 (by decide) rfl rfl (Nat.le_of_ble_eq_true rfl) (Nat.le_of_ble_eq_true rfl) (by decide) (by decide) (k_blow hc ws) (fun r h1 e1 => ?_)
  obtain ⟨e0, hc1, fr⟩ := e1
  cases e0
  have fr : FrC h h1 := fr
  have hc1 : CL h1 (s) := hc1
  have hM1 := hM.frc fr
  obtain ⟨fs1, g36⟩ := hM1.cell
  refine x_aload_n dL_law_506 3 rfl ?_
  refine x_aload_n dL_law_507 1 rfl ?_
  refine x_iload dL_law_508 0 rfl ?_
  refine x_iconst (v := 1) dL_law_510 (by decide) ?_
  refine x_iaddN (a := i) (b := 1) dL_law_511 ?_
  refine x_sld dL_law_512 (vp_in_nI (by omega) (by omega)) ?_
  refine x_aload_n dL_law_513 1 rfl ?_
  refine x_iload dL_law_514 0 rfl ?_
  refine x_iconst (v := 2) dL_law_516 (by decide) ?_
  refine x_iaddN (a := i) (b := 2) dL_law_517 ?_
  refine x_sld dL_law_518 (vp_in_nI (by omega) (by omega)) ?_
  refine x_aload_n dL_law_519 1 rfl ?_
  refine x_iload dL_law_520 0 rfl ?_
  refine x_iconst (v := 3) dL_law_522 (by decide) ?_
  refine x_iaddN (a := i) (b := 3) dL_law_523 ?_
  refine x_sld dL_law_524 (vp_in_nI (by omega) (by omega)) ?_
  refine x_aload_n dL_law_525 1 rfl ?_
  refine x_iload dL_law_526 0 rfl ?_
  refine x_iconst (v := 4) dL_law_528 (by decide) ?_
  refine x_iaddN (a := i) (b := 4) dL_law_529 ?_
  refine x_sld dL_law_530 (vp_in_nI (by omega) (by omega)) ?_
  refine x_aload_n dL_law_531 1 rfl ?_
  refine x_iload dL_law_532 0 rfl ?_
  refine x_iconst (v := 5) dL_law_534 (by decide) ?_
  refine x_iaddN (a := i) (b := 5) dL_law_535 ?_
  refine x_sld dL_law_536 (vp_in_nI (by omega) (by omega)) ?_
  refine x_callV (rf' := 5) (rl' := 114) [.int (g_xs G (((nI (i + 1))).toNatClampNeg)), .int (g_xs G (((nI (i + 2))).toNatClampNeg)), .int (g_xs G (((nI (i + 3))).toNatClampNeg)), .int (g_xs G (((nI (i + 4))).toNatClampNeg)), .int (g_xs G (((nI (i + 5))).toNatClampNeg))] [.int (spBl (sR s (g_xs G (((nI (i + 5))).toNatClampNeg))) (sC s (g_xs G (((nI (i + 5))).toNatClampNeg))) (g_xs G (((nI (i + 1))).toNatClampNeg)) (g_xs G (((nI (i + 2))).toNatClampNeg)) (g_xs G (((nI (i + 3))).toNatClampNeg)) (g_xs G (((nI (i + 4))).toNatClampNeg)))] dL_law_537 vL_60 Y_X12_blow g36 (by decide) rfl rfl (Nat.le_of_ble_eq_true rfl) (Nat.le_of_ble_eq_true rfl) (by decide) (by decide) (m_blow hM1 ws) (fun r h2 e1 => ?_)
  obtain ⟨e0, hM2, sm2⟩ := e1
  cases e0
  refine x_icmp_eq (tgt := 1240) dL_law_540 (by decide) (fun c_540 => ?_) (fun c_540 => absurd rfl c_540)
  refine x_perm [0, 1, 2, 3, 4] rfl ?_
  exact KX h2 (s) (I.step fr hc1 sm2 (by decide) hM2 (ws))

set_option maxRecDepth 100000 in
set_option maxHeartbeats 4000000 in
theorem law_9 {G : GT} {h : List PE} {s : ST} {n i : Nat} {Q : OT → Prop} (hL : g_L G ≤ 3584) (hi : i + 7 ≤ g_L G) (I : LI h s n) (KX : ∀ (h1 : List PE) (s1 : ST), LI h1 s1 (n + 1) → X (NF G) G mL_law 8 184 1240 [(4, .int (nI i)), (0, .ref 0), (1, .ref 3), (2, .ref 36), (3, .ref 50)] [] h1 Q) : X (NF G) G mL_law 8 184 545 [(4, .int (nI i)), (0, .ref 0), (1, .ref 3), (2, .ref 36), (3, .ref 50)] [] h Q := by
  obtain ⟨hc, hM, ws, hout, l1, l2⟩ := id I
  have g3 : h[3]? = some (cO 11 [.ref 4, .ref 6, .ref 15, .ref 16, .ref 21, .ref 25, .ref 32, .ref 35, .int (nI (s_n s)), .int (nI (s_td s)), .int (s_fl s), .int (s_br s)]) := hc.1
  refine x_aload_n dL_law_545 2 rfl ?_
  refine x_aload_n dL_law_546 1 rfl ?_
  refine x_iload dL_law_547 0 rfl ?_
  refine x_iconst (v := 1) dL_law_549 (by decide) ?_
  refine x_iaddN (a := i) (b := 1) dL_law_550 ?_
  refine x_sld dL_law_551 (vp_in_nI (by omega) (by omega)) ?_
  refine x_aload_n dL_law_552 1 rfl ?_
  refine x_iload dL_law_553 0 rfl ?_
  refine x_iconst (v := 2) dL_law_555 (by decide) ?_
  refine x_iaddN (a := i) (b := 2) dL_law_556 ?_
  refine x_sld dL_law_557 (vp_in_nI (by omega) (by omega)) ?_
  refine x_aload_n dL_law_558 1 rfl ?_
  refine x_iload dL_law_559 0 rfl ?_
  refine x_iconst (v := 3) dL_law_561 (by decide) ?_
  refine x_iaddN (a := i) (b := 3) dL_law_562 ?_
  refine x_sld dL_law_563 (vp_in_nI (by omega) (by omega)) ?_
  refine x_aload_n dL_law_564 1 rfl ?_
  refine x_iload dL_law_565 0 rfl ?_
  refine x_iconst (v := 4) dL_law_567 (by decide) ?_
  refine x_iaddN (a := i) (b := 4) dL_law_568 ?_
  refine x_sld dL_law_569 (vp_in_nI (by omega) (by omega)) ?_
  refine x_callV (rf' := 5) (rl' := 110) [.int (g_xs G (((nI (i + 1))).toNatClampNeg)), .int (g_xs G (((nI (i + 2))).toNatClampNeg)), .int (g_xs G (((nI (i + 3))).toNatClampNeg)), .int (g_xs G (((nI (i + 4))).toNatClampNeg))] [] dL_law_570 vL_61 Y_X11_again g3 (by decide) rfl rfl (Nat.le_of_ble_eq_true rfl) (Nat.le_of_ble_eq_true rfl) (by decide) (by decide) (k_again hc ws) (fun r h1 e1 => ?_)
  obtain ⟨e0, hc1, fr⟩ := e1
  cases e0
  have fr : FrC h h1 := fr
  have hc1 : CL h1 (s) := hc1
  have hM1 := hM.frc fr
  obtain ⟨fs1, g36⟩ := hM1.cell
  refine x_aload_n dL_law_573 3 rfl ?_
  refine x_aload_n dL_law_574 1 rfl ?_
  refine x_iload dL_law_575 0 rfl ?_
  refine x_iconst (v := 1) dL_law_577 (by decide) ?_
  refine x_iaddN (a := i) (b := 1) dL_law_578 ?_
  refine x_sld dL_law_579 (vp_in_nI (by omega) (by omega)) ?_
  refine x_aload_n dL_law_580 1 rfl ?_
  refine x_iload dL_law_581 0 rfl ?_
  refine x_iconst (v := 2) dL_law_583 (by decide) ?_
  refine x_iaddN (a := i) (b := 2) dL_law_584 ?_
  refine x_sld dL_law_585 (vp_in_nI (by omega) (by omega)) ?_
  refine x_aload_n dL_law_586 1 rfl ?_
  refine x_iload dL_law_587 0 rfl ?_
  refine x_iconst (v := 3) dL_law_589 (by decide) ?_
  refine x_iaddN (a := i) (b := 3) dL_law_590 ?_
  refine x_sld dL_law_591 (vp_in_nI (by omega) (by omega)) ?_
  refine x_aload_n dL_law_592 1 rfl ?_
  refine x_iload dL_law_593 0 rfl ?_
  refine x_iconst (v := 4) dL_law_595 (by decide) ?_
  refine x_iaddN (a := i) (b := 4) dL_law_596 ?_
  refine x_sld dL_law_597 (vp_in_nI (by omega) (by omega)) ?_
  refine x_callV (rf' := 4) (rl' := 89) [.int (g_xs G (((nI (i + 1))).toNatClampNeg)), .int (g_xs G (((nI (i + 2))).toNatClampNeg)), .int (g_xs G (((nI (i + 3))).toNatClampNeg)), .int (g_xs G (((nI (i + 4))).toNatClampNeg))] [.int (spAg (sR s (g_xs G (((nI (i + 4))).toNatClampNeg))) (sC s (g_xs G (((nI (i + 4))).toNatClampNeg))) (g_xs G (((nI (i + 1))).toNatClampNeg)) (g_xs G (((nI (i + 2))).toNatClampNeg)) (g_xs G (((nI (i + 3))).toNatClampNeg)))] dL_law_598 vL_64 Y_X12_again g36 (by decide) rfl rfl (Nat.le_of_ble_eq_true rfl) (Nat.le_of_ble_eq_true rfl) (by decide) (by decide) (m_again hM1 ws) (fun r h2 e1 => ?_)
  obtain ⟨e0, hM2, sm2⟩ := e1
  cases e0
  refine x_icmp_eq (tgt := 1240) dL_law_601 (by decide) (fun c_601 => ?_) (fun c_601 => absurd rfl c_601)
  refine x_perm [0, 1, 2, 3, 4] rfl ?_
  exact KX h2 (s) (I.step fr hc1 sm2 (by decide) hM2 (ws))

set_option maxRecDepth 100000 in
set_option maxHeartbeats 4000000 in
theorem law_10 {G : GT} {h : List PE} {s : ST} {n i : Nat} {Q : OT → Prop} (hL : g_L G ≤ 3584) (hi : i + 7 ≤ g_L G) (I : LI h s n) (KX : ∀ (h1 : List PE) (s1 : ST), LI h1 s1 (n + 1) → X (NF G) G mL_law 8 184 1240 [(4, .int (nI i)), (0, .ref 0), (1, .ref 3), (2, .ref 36), (3, .ref 50)] [] h1 Q) : X (NF G) G mL_law 8 184 606 [(4, .int (nI i)), (0, .ref 0), (1, .ref 3), (2, .ref 36), (3, .ref 50)] [] h Q := by
  obtain ⟨hc, hM, ws, hout, l1, l2⟩ := id I
  have g3 : h[3]? = some (cO 11 [.ref 4, .ref 6, .ref 15, .ref 16, .ref 21, .ref 25, .ref 32, .ref 35, .int (nI (s_n s)), .int (nI (s_td s)), .int (s_fl s), .int (s_br s)]) := hc.1
  refine x_aload_n dL_law_606 2 rfl ?_
  refine x_aload_n dL_law_607 1 rfl ?_
  refine x_iload dL_law_608 0 rfl ?_
  refine x_iconst (v := 1) dL_law_610 (by decide) ?_
  refine x_iaddN (a := i) (b := 1) dL_law_611 ?_
  refine x_sld dL_law_612 (vp_in_nI (by omega) (by omega)) ?_
  refine x_aload_n dL_law_613 1 rfl ?_
  refine x_iload dL_law_614 0 rfl ?_
  refine x_iconst (v := 2) dL_law_616 (by decide) ?_
  refine x_iaddN (a := i) (b := 2) dL_law_617 ?_
  refine x_sld dL_law_618 (vp_in_nI (by omega) (by omega)) ?_
  refine x_callV (rf' := 5) (rl' := 113) [.int (g_xs G (((nI (i + 1))).toNatClampNeg)), .int (g_xs G (((nI (i + 2))).toNatClampNeg))] [] dL_law_619 vL_65 Y_X11_breaks g3 (by decide) rfl rfl (Nat.le_of_ble_eq_true rfl) (Nat.le_of_ble_eq_true rfl) (by decide) (by decide) (k_breaks hc ws) (fun r h1 e1 => ?_)
  obtain ⟨e0, hc1, fr⟩ := e1
  cases e0
  have fr : FrC h h1 := fr
  have hc1 : CL h1 (s_setBr s (spBkT (sR s (g_xs G (((nI (i + 2))).toNatClampNeg))) (sC s (g_xs G (((nI (i + 2))).toNatClampNeg))) (g_xs G (((nI (i + 1))).toNatClampNeg)) (s_br s))) := hc1
  have hM1 := hM.frc fr
  obtain ⟨fs1, g36⟩ := hM1.cell
  refine x_aload_n dL_law_622 3 rfl ?_
  refine x_aload_n dL_law_623 1 rfl ?_
  refine x_iload dL_law_624 0 rfl ?_
  refine x_iconst (v := 1) dL_law_626 (by decide) ?_
  refine x_iaddN (a := i) (b := 1) dL_law_627 ?_
  refine x_sld dL_law_628 (vp_in_nI (by omega) (by omega)) ?_
  refine x_aload_n dL_law_629 1 rfl ?_
  refine x_iload dL_law_630 0 rfl ?_
  refine x_iconst (v := 2) dL_law_632 (by decide) ?_
  refine x_iaddN (a := i) (b := 2) dL_law_633 ?_
  refine x_sld dL_law_634 (vp_in_nI (by omega) (by omega)) ?_
  refine x_callV (rf' := 3) (rl' := 65) [.int (g_xs G (((nI (i + 1))).toNatClampNeg)), .int (g_xs G (((nI (i + 2))).toNatClampNeg))] [.int (spBkA (sR s (g_xs G (((nI (i + 2))).toNatClampNeg))) (sC s (g_xs G (((nI (i + 2))).toNatClampNeg))) (g_xs G (((nI (i + 1))).toNatClampNeg)))] dL_law_635 vL_68 Y_X12_breaks g36 (by decide) rfl rfl (Nat.le_of_ble_eq_true rfl) (Nat.le_of_ble_eq_true rfl) (by decide) (by decide) (m_breaks hM1 ws) (fun r h2 e1 => ?_)
  obtain ⟨e0, hM2, sm2⟩ := e1
  cases e0
  refine x_icmp_eq (tgt := 1240) dL_law_638 (by decide) (fun c_638 => ?_) (fun c_638 => absurd rfl c_638)
  refine x_perm [0, 1, 2, 3, 4] rfl ?_
  exact KX h2 (s_setBr s (spBkT (sR s (g_xs G (((nI (i + 2))).toNatClampNeg))) (sC s (g_xs G (((nI (i + 2))).toNatClampNeg))) (g_xs G (((nI (i + 1))).toNatClampNeg)) (s_br s))) (I.step fr hc1 sm2 (by decide) hM2 (ws))

set_option maxRecDepth 100000 in
set_option maxHeartbeats 4000000 in
theorem law_11 {G : GT} {h : List PE} {s : ST} {n i : Nat} {Q : OT → Prop} (hL : g_L G ≤ 3584) (hi : i + 7 ≤ g_L G) (I : LI h s n) (KX : ∀ (h1 : List PE) (s1 : ST), LI h1 s1 (n + 1) → X (NF G) G mL_law 8 184 1240 [(4, .int (nI i)), (0, .ref 0), (1, .ref 3), (2, .ref 36), (3, .ref 50)] [] h1 Q) : X (NF G) G mL_law 8 184 643 [(4, .int (nI i)), (0, .ref 0), (1, .ref 3), (2, .ref 36), (3, .ref 50)] [] h Q := by
  obtain ⟨hc, hM, ws, hout, l1, l2⟩ := id I
  have g3 : h[3]? = some (cO 11 [.ref 4, .ref 6, .ref 15, .ref 16, .ref 21, .ref 25, .ref 32, .ref 35, .int (nI (s_n s)), .int (nI (s_td s)), .int (s_fl s), .int (s_br s)]) := hc.1
  refine x_aload_n dL_law_643 2 rfl ?_
  refine x_callV (rf' := 0) (rl' := 0) [] [] dL_law_644 vL_69 Y_X11_breaksAt g3 (by decide) rfl rfl (Nat.le_of_ble_eq_true rfl) (Nat.le_of_ble_eq_true rfl) (by decide) (by decide) (k_breaksAt hc ws) (fun r h1 e1 => ?_)
  obtain ⟨e0, hc1, fr⟩ := e1
  cases e0
  have fr : FrC h h1 := fr
  have hc1 : CL h1 (s) := hc1
  have hM1 := hM.frc fr
  obtain ⟨fs1, g36⟩ := hM1.cell
  refine x_aload_n dL_law_647 3 rfl ?_
  refine x_callV (rf' := 0) (rl' := 0) [] [.int (s_br s)] dL_law_648 vL_72 Y_X12_breaksAt g36 (by decide) rfl rfl (Nat.le_of_ble_eq_true rfl) (Nat.le_of_ble_eq_true rfl) (by decide) (by decide) (m_breaksAt hM1) (fun r h2 e1 => ?_)
  obtain ⟨e0, hM2, sm2⟩ := e1
  cases e0
  refine x_icmp_eq (tgt := 1240) dL_law_651 (by decide) (fun c_651 => ?_) (fun c_651 => absurd rfl c_651)
  refine x_perm [0, 1, 2, 3, 4] rfl ?_
  exact KX h2 (s) (I.step fr hc1 sm2 (by decide) hM2 (ws))

set_option maxRecDepth 100000 in
set_option maxHeartbeats 4000000 in
theorem law_12 {G : GT} {h : List PE} {s : ST} {n i : Nat} {Q : OT → Prop} (hL : g_L G ≤ 3584) (hi : i + 7 ≤ g_L G) (I : LI h s n) (KX : ∀ (h1 : List PE) (s1 : ST), LI h1 s1 (n + 1) → X (NF G) G mL_law 8 184 1240 [(4, .int (nI i)), (0, .ref 0), (1, .ref 3), (2, .ref 36), (3, .ref 50)] [] h1 Q) : X (NF G) G mL_law 8 184 656 [(4, .int (nI i)), (0, .ref 0), (1, .ref 3), (2, .ref 36), (3, .ref 50)] [] h Q := by
  obtain ⟨hc, hM, ws, hout, l1, l2⟩ := id I
  have g3 : h[3]? = some (cO 11 [.ref 4, .ref 6, .ref 15, .ref 16, .ref 21, .ref 25, .ref 32, .ref 35, .int (nI (s_n s)), .int (nI (s_td s)), .int (s_fl s), .int (s_br s)]) := hc.1
  refine x_aload_n dL_law_656 2 rfl ?_
  refine x_aload_n dL_law_657 1 rfl ?_
  refine x_iload dL_law_658 0 rfl ?_
  refine x_iconst (v := 1) dL_law_660 (by decide) ?_
  refine x_iaddN (a := i) (b := 1) dL_law_661 ?_
  refine x_sld dL_law_662 (vp_in_nI (by omega) (by omega)) ?_
  refine x_aload_n dL_law_663 1 rfl ?_
  refine x_iload dL_law_664 0 rfl ?_
  refine x_iconst (v := 2) dL_law_666 (by decide) ?_
  refine x_iaddN (a := i) (b := 2) dL_law_667 ?_
  refine x_sld dL_law_668 (vp_in_nI (by omega) (by omega)) ?_
  refine x_aload_n dL_law_669 1 rfl ?_
  refine x_iload dL_law_670 0 rfl ?_
  refine x_iconst (v := 3) dL_law_672 (by decide) ?_
  refine x_iaddN (a := i) (b := 3) dL_law_673 ?_
  refine x_sld dL_law_674 (vp_in_nI (by omega) (by omega)) ?_
  refine x_aload_n dL_law_675 1 rfl ?_
  refine x_iload dL_law_676 0 rfl ?_
  refine x_iconst (v := 4) dL_law_678 (by decide) ?_
  refine x_iaddN (a := i) (b := 4) dL_law_679 ?_
  refine x_sld dL_law_680 (vp_in_nI (by omega) (by omega)) ?_
  refine x_callV (rf' := 5) (rl' := 110) [.int (g_xs G (((nI (i + 1))).toNatClampNeg)), .int (g_xs G (((nI (i + 2))).toNatClampNeg)), .int (g_xs G (((nI (i + 3))).toNatClampNeg)), .int (g_xs G (((nI (i + 4))).toNatClampNeg))] [] dL_law_681 vL_73 Y_X11_spans g3 (by decide) rfl rfl (Nat.le_of_ble_eq_true rfl) (Nat.le_of_ble_eq_true rfl) (by decide) (by decide) (k_spans hc ws) (fun r h1 e1 => ?_)
  obtain ⟨e0, hc1, fr⟩ := e1
  cases e0
  have fr : FrC h h1 := fr
  have hc1 : CL h1 (s_setTn s 0) := hc1
  have hM1 := hM.frc fr
  obtain ⟨fs1, g36⟩ := hM1.cell
  refine x_aload_n dL_law_684 3 rfl ?_
  refine x_aload_n dL_law_685 1 rfl ?_
  refine x_iload dL_law_686 0 rfl ?_
  refine x_iconst (v := 1) dL_law_688 (by decide) ?_
  refine x_iaddN (a := i) (b := 1) dL_law_689 ?_
  refine x_sld dL_law_690 (vp_in_nI (by omega) (by omega)) ?_
  refine x_aload_n dL_law_691 1 rfl ?_
  refine x_iload dL_law_692 0 rfl ?_
  refine x_iconst (v := 2) dL_law_694 (by decide) ?_
  refine x_iaddN (a := i) (b := 2) dL_law_695 ?_
  refine x_sld dL_law_696 (vp_in_nI (by omega) (by omega)) ?_
  refine x_aload_n dL_law_697 1 rfl ?_
  refine x_iload dL_law_698 0 rfl ?_
  refine x_iconst (v := 3) dL_law_700 (by decide) ?_
  refine x_iaddN (a := i) (b := 3) dL_law_701 ?_
  refine x_sld dL_law_702 (vp_in_nI (by omega) (by omega)) ?_
  refine x_aload_n dL_law_703 1 rfl ?_
  refine x_iload dL_law_704 0 rfl ?_
  refine x_iconst (v := 4) dL_law_706 (by decide) ?_
  refine x_iaddN (a := i) (b := 4) dL_law_707 ?_
  refine x_sld dL_law_708 (vp_in_nI (by omega) (by omega)) ?_
  refine x_callV (rf' := 4) (rl' := 89) [.int (g_xs G (((nI (i + 1))).toNatClampNeg)), .int (g_xs G (((nI (i + 2))).toNatClampNeg)), .int (g_xs G (((nI (i + 3))).toNatClampNeg)), .int (g_xs G (((nI (i + 4))).toNatClampNeg))] [.int (spSp (sR s (g_xs G (((nI (i + 4))).toNatClampNeg))) (sC s (g_xs G (((nI (i + 4))).toNatClampNeg))) (g_xs G (((nI (i + 1))).toNatClampNeg)) (g_xs G (((nI (i + 2))).toNatClampNeg)) (g_xs G (((nI (i + 3))).toNatClampNeg)) (s_tn s) (s_tv s))] dL_law_709 vL_76 Y_X12_spans g36 (by decide) rfl rfl (Nat.le_of_ble_eq_true rfl) (Nat.le_of_ble_eq_true rfl) (by decide) (by decide) (m_spans hM1 ws) (fun r h2 e1 => ?_)
  obtain ⟨e0, hM2, sm2⟩ := e1
  cases e0
  refine x_icmp_eq (tgt := 1240) dL_law_712 (by decide) (fun c_712 => ?_) (fun c_712 => absurd rfl c_712)
  refine x_perm [0, 1, 2, 3, 4] rfl ?_
  exact KX h2 (s_setTn s 0) (I.step fr hc1 sm2 (by decide) hM2 (ws_tn ws (Nat.zero_le _)))

set_option maxRecDepth 100000 in
set_option maxHeartbeats 4000000 in
theorem law_13 {G : GT} {h : List PE} {s : ST} {n i : Nat} {Q : OT → Prop} (hL : g_L G ≤ 3584) (hi : i + 7 ≤ g_L G) (I : LI h s n) (KX : ∀ (h1 : List PE) (s1 : ST), LI h1 s1 (n + 1) → X (NF G) G mL_law 8 184 1240 [(4, .int (nI i)), (0, .ref 0), (1, .ref 3), (2, .ref 36), (3, .ref 50)] [] h1 Q) : X (NF G) G mL_law 8 184 717 [(4, .int (nI i)), (0, .ref 0), (1, .ref 3), (2, .ref 36), (3, .ref 50)] [] h Q := by
  obtain ⟨hc, hM, ws, hout, l1, l2⟩ := id I
  have g3 : h[3]? = some (cO 11 [.ref 4, .ref 6, .ref 15, .ref 16, .ref 21, .ref 25, .ref 32, .ref 35, .int (nI (s_n s)), .int (nI (s_td s)), .int (s_fl s), .int (s_br s)]) := hc.1
  refine x_aload_n dL_law_717 2 rfl ?_
  refine x_aload_n dL_law_718 1 rfl ?_
  refine x_iload dL_law_719 0 rfl ?_
  refine x_iconst (v := 1) dL_law_721 (by decide) ?_
  refine x_iaddN (a := i) (b := 1) dL_law_722 ?_
  refine x_sld dL_law_723 (vp_in_nI (by omega) (by omega)) ?_
  refine x_aload_n dL_law_724 1 rfl ?_
  refine x_iload dL_law_725 0 rfl ?_
  refine x_iconst (v := 2) dL_law_727 (by decide) ?_
  refine x_iaddN (a := i) (b := 2) dL_law_728 ?_
  refine x_sld dL_law_729 (vp_in_nI (by omega) (by omega)) ?_
  refine x_aload_n dL_law_730 1 rfl ?_
  refine x_iload dL_law_731 0 rfl ?_
  refine x_iconst (v := 3) dL_law_733 (by decide) ?_
  refine x_iaddN (a := i) (b := 3) dL_law_734 ?_
  refine x_sld dL_law_735 (vp_in_nI (by omega) (by omega)) ?_
  refine x_callV (rf' := 5) (rl' := 117) [.int (g_xs G (((nI (i + 1))).toNatClampNeg)), .int (g_xs G (((nI (i + 2))).toNatClampNeg)), .int (g_xs G (((nI (i + 3))).toNatClampNeg))] [] dL_law_736 vL_77 Y_X11_highest g3 (by decide) rfl rfl (Nat.le_of_ble_eq_true rfl) (Nat.le_of_ble_eq_true rfl) (by decide) (by decide) (k_highest hc ws) (fun r h1 e1 => ?_)
  obtain ⟨e0, hc1, fr⟩ := e1
  cases e0
  have fr : FrC h h1 := fr
  have hc1 : CL h1 (s) := hc1
  have hM1 := hM.frc fr
  obtain ⟨fs1, g36⟩ := hM1.cell
  refine x_aload_n dL_law_739 3 rfl ?_
  refine x_aload_n dL_law_740 1 rfl ?_
  refine x_iload dL_law_741 0 rfl ?_
  refine x_iconst (v := 1) dL_law_743 (by decide) ?_
  refine x_iaddN (a := i) (b := 1) dL_law_744 ?_
  refine x_sld dL_law_745 (vp_in_nI (by omega) (by omega)) ?_
  refine x_aload_n dL_law_746 1 rfl ?_
  refine x_iload dL_law_747 0 rfl ?_
  refine x_iconst (v := 2) dL_law_749 (by decide) ?_
  refine x_iaddN (a := i) (b := 2) dL_law_750 ?_
  refine x_sld dL_law_751 (vp_in_nI (by omega) (by omega)) ?_
  refine x_aload_n dL_law_752 1 rfl ?_
  refine x_iload dL_law_753 0 rfl ?_
  refine x_iconst (v := 3) dL_law_755 (by decide) ?_
  refine x_iaddN (a := i) (b := 3) dL_law_756 ?_
  refine x_sld dL_law_757 (vp_in_nI (by omega) (by omega)) ?_
  refine x_callV (rf' := 4) (rl' := 89) [.int (g_xs G (((nI (i + 1))).toNatClampNeg)), .int (g_xs G (((nI (i + 2))).toNatClampNeg)), .int (g_xs G (((nI (i + 3))).toNatClampNeg))] [.int (spHi (sR s (g_xs G (((nI (i + 3))).toNatClampNeg))) (sC s (g_xs G (((nI (i + 3))).toNatClampNeg))) (g_xs G (((nI (i + 1))).toNatClampNeg)) (g_xs G (((nI (i + 2))).toNatClampNeg)))] dL_law_758 vL_81 Y_X12_highest g36 (by decide) rfl rfl (Nat.le_of_ble_eq_true rfl) (Nat.le_of_ble_eq_true rfl) (by decide) (by decide) (m_highest hM1 ws) (fun r h2 e1 => ?_)
  obtain ⟨e0, hM2, sm2⟩ := e1
  cases e0
  refine x_icmp_eq (tgt := 1240) dL_law_761 (by decide) (fun c_761 => ?_) (fun c_761 => absurd rfl c_761)
  refine x_perm [0, 1, 2, 3, 4] rfl ?_
  exact KX h2 (s) (I.step fr hc1 sm2 (by decide) hM2 (ws))

set_option maxRecDepth 100000 in
set_option maxHeartbeats 4000000 in
theorem law_14 {G : GT} {h : List PE} {s : ST} {n i : Nat} {Q : OT → Prop} (hL : g_L G ≤ 3584) (hi : i + 7 ≤ g_L G) (I : LI h s n) (KX : ∀ (h1 : List PE) (s1 : ST), LI h1 s1 (n + 1) → X (NF G) G mL_law 8 184 1240 [(4, .int (nI i)), (0, .ref 0), (1, .ref 3), (2, .ref 36), (3, .ref 50)] [] h1 Q) : X (NF G) G mL_law 8 184 766 [(4, .int (nI i)), (0, .ref 0), (1, .ref 3), (2, .ref 36), (3, .ref 50)] [] h Q := by
  obtain ⟨hc, hM, ws, hout, l1, l2⟩ := id I
  have g3 : h[3]? = some (cO 11 [.ref 4, .ref 6, .ref 15, .ref 16, .ref 21, .ref 25, .ref 32, .ref 35, .int (nI (s_n s)), .int (nI (s_td s)), .int (s_fl s), .int (s_br s)]) := hc.1
  refine x_aload_n dL_law_766 2 rfl ?_
  refine x_aload_n dL_law_767 1 rfl ?_
  refine x_iload dL_law_768 0 rfl ?_
  refine x_iconst (v := 1) dL_law_770 (by decide) ?_
  refine x_iaddN (a := i) (b := 1) dL_law_771 ?_
  refine x_sld dL_law_772 (vp_in_nI (by omega) (by omega)) ?_
  refine x_aload_n dL_law_773 1 rfl ?_
  refine x_iload dL_law_774 0 rfl ?_
  refine x_iconst (v := 2) dL_law_776 (by decide) ?_
  refine x_iaddN (a := i) (b := 2) dL_law_777 ?_
  refine x_sld dL_law_778 (vp_in_nI (by omega) (by omega)) ?_
  refine x_aload_n dL_law_779 1 rfl ?_
  refine x_iload dL_law_780 0 rfl ?_
  refine x_iconst (v := 3) dL_law_782 (by decide) ?_
  refine x_iaddN (a := i) (b := 3) dL_law_783 ?_
  refine x_sld dL_law_784 (vp_in_nI (by omega) (by omega)) ?_
  refine x_aload_n dL_law_785 1 rfl ?_
  refine x_iload dL_law_786 0 rfl ?_
  refine x_iconst (v := 4) dL_law_788 (by decide) ?_
  refine x_iaddN (a := i) (b := 4) dL_law_789 ?_
  refine x_sld dL_law_790 (vp_in_nI (by omega) (by omega)) ?_
  refine x_aload_n dL_law_791 1 rfl ?_
  refine x_iload dL_law_792 0 rfl ?_
  refine x_iconst (v := 5) dL_law_794 (by decide) ?_
  refine x_iaddN (a := i) (b := 5) dL_law_795 ?_
  refine x_sld dL_law_796 (vp_in_nI (by omega) (by omega)) ?_
  refine x_aload_n dL_law_797 1 rfl ?_
  refine x_iload dL_law_798 0 rfl ?_
  refine x_bipush (v := 6) dL_law_800 (by decide) ?_
  refine x_iaddN (a := i) (b := 6) dL_law_802 ?_
  refine x_sld dL_law_803 (vp_in_nI (by omega) (by omega)) ?_
  refine x_callV (rf' := 5) (rl' := 117) [.int (g_xs G (((nI (i + 1))).toNatClampNeg)), .int (g_xs G (((nI (i + 2))).toNatClampNeg)), .int (g_xs G (((nI (i + 3))).toNatClampNeg)), .int (g_xs G (((nI (i + 4))).toNatClampNeg)), .int (g_xs G (((nI (i + 5))).toNatClampNeg)), .int (g_xs G (((nI (i + 6))).toNatClampNeg))] [] dL_law_804 vL_82 Y_X11_recorded g3 (by decide) rfl rfl (Nat.le_of_ble_eq_true rfl) (Nat.le_of_ble_eq_true rfl) (by decide) (by decide) (k_recorded hc ws) (fun r h1 e1 => ?_)
  obtain ⟨e0, hc1, fr⟩ := e1
  cases e0
  have fr : FrC h h1 := fr
  have hc1 : CL h1 (s) := hc1
  have hM1 := hM.frc fr
  obtain ⟨fs1, g36⟩ := hM1.cell
  refine x_aload_n dL_law_807 3 rfl ?_
  refine x_aload_n dL_law_808 1 rfl ?_
  refine x_iload dL_law_809 0 rfl ?_
  refine x_iconst (v := 1) dL_law_811 (by decide) ?_
  refine x_iaddN (a := i) (b := 1) dL_law_812 ?_
  refine x_sld dL_law_813 (vp_in_nI (by omega) (by omega)) ?_
  refine x_aload_n dL_law_814 1 rfl ?_
  refine x_iload dL_law_815 0 rfl ?_
  refine x_iconst (v := 2) dL_law_817 (by decide) ?_
  refine x_iaddN (a := i) (b := 2) dL_law_818 ?_
  refine x_sld dL_law_819 (vp_in_nI (by omega) (by omega)) ?_
  refine x_aload_n dL_law_820 1 rfl ?_
  refine x_iload dL_law_821 0 rfl ?_
  refine x_iconst (v := 3) dL_law_823 (by decide) ?_
  refine x_iaddN (a := i) (b := 3) dL_law_824 ?_
  refine x_sld dL_law_825 (vp_in_nI (by omega) (by omega)) ?_
  refine x_aload_n dL_law_826 1 rfl ?_
  refine x_iload dL_law_827 0 rfl ?_
  refine x_iconst (v := 4) dL_law_829 (by decide) ?_
  refine x_iaddN (a := i) (b := 4) dL_law_830 ?_
  refine x_sld dL_law_831 (vp_in_nI (by omega) (by omega)) ?_
  refine x_aload_n dL_law_832 1 rfl ?_
  refine x_iload dL_law_833 0 rfl ?_
  refine x_iconst (v := 5) dL_law_835 (by decide) ?_
  refine x_iaddN (a := i) (b := 5) dL_law_836 ?_
  refine x_sld dL_law_837 (vp_in_nI (by omega) (by omega)) ?_
  refine x_aload_n dL_law_838 1 rfl ?_
  refine x_iload dL_law_839 0 rfl ?_
  refine x_bipush (v := 6) dL_law_841 (by decide) ?_
  refine x_iaddN (a := i) (b := 6) dL_law_843 ?_
  refine x_sld dL_law_844 (vp_in_nI (by omega) (by omega)) ?_
  refine x_callV (rf' := 4) (rl' := 89) [.int (g_xs G (((nI (i + 1))).toNatClampNeg)), .int (g_xs G (((nI (i + 2))).toNatClampNeg)), .int (g_xs G (((nI (i + 3))).toNatClampNeg)), .int (g_xs G (((nI (i + 4))).toNatClampNeg)), .int (g_xs G (((nI (i + 5))).toNatClampNeg)), .int (g_xs G (((nI (i + 6))).toNatClampNeg))] [.int (spRe (sR s (g_xs G (((nI (i + 5))).toNatClampNeg))) (sC s (g_xs G (((nI (i + 5))).toNatClampNeg))) (g_xs G (((nI (i + 1))).toNatClampNeg)) (g_xs G (((nI (i + 2))).toNatClampNeg)) (g_xs G (((nI (i + 3))).toNatClampNeg)) (g_xs G (((nI (i + 4))).toNatClampNeg)) (g_xs G (((nI (i + 6))).toNatClampNeg)))] dL_law_845 vL_86 Y_X12_recorded g36 (by decide) rfl rfl (Nat.le_of_ble_eq_true rfl) (Nat.le_of_ble_eq_true rfl) (by decide) (by decide) (m_recorded hM1 ws) (fun r h2 e1 => ?_)
  obtain ⟨e0, hM2, sm2⟩ := e1
  cases e0
  refine x_icmp_eq (tgt := 1240) dL_law_848 (by decide) (fun c_848 => ?_) (fun c_848 => absurd rfl c_848)
  refine x_perm [0, 1, 2, 3, 4] rfl ?_
  exact KX h2 (s) (I.step fr hc1 sm2 (by decide) hM2 (ws))

set_option maxRecDepth 100000 in
set_option maxHeartbeats 4000000 in
theorem law_15 {G : GT} {h : List PE} {s : ST} {n i : Nat} {Q : OT → Prop} (hL : g_L G ≤ 3584) (hi : i + 7 ≤ g_L G) (I : LI h s n) (KX : ∀ (h1 : List PE) (s1 : ST), LI h1 s1 (n + 1) → X (NF G) G mL_law 8 184 1240 [(4, .int (nI i)), (0, .ref 0), (1, .ref 3), (2, .ref 36), (3, .ref 50)] [] h1 Q) : X (NF G) G mL_law 8 184 853 [(4, .int (nI i)), (0, .ref 0), (1, .ref 3), (2, .ref 36), (3, .ref 50)] [] h Q := by
  obtain ⟨hc, hM, ws, hout, l1, l2⟩ := id I
  have g3 : h[3]? = some (cO 11 [.ref 4, .ref 6, .ref 15, .ref 16, .ref 21, .ref 25, .ref 32, .ref 35, .int (nI (s_n s)), .int (nI (s_td s)), .int (s_fl s), .int (s_br s)]) := hc.1
  refine x_aload_n dL_law_853 2 rfl ?_
  refine x_aload_n dL_law_854 1 rfl ?_
  refine x_iload dL_law_855 0 rfl ?_
  refine x_iconst (v := 1) dL_law_857 (by decide) ?_
  refine x_iaddN (a := i) (b := 1) dL_law_858 ?_
  refine x_sld dL_law_859 (vp_in_nI (by omega) (by omega)) ?_
  refine x_aload_n dL_law_860 1 rfl ?_
  refine x_iload dL_law_861 0 rfl ?_
  refine x_iconst (v := 2) dL_law_863 (by decide) ?_
  refine x_iaddN (a := i) (b := 2) dL_law_864 ?_
  refine x_sld dL_law_865 (vp_in_nI (by omega) (by omega)) ?_
  refine x_aload_n dL_law_866 1 rfl ?_
  refine x_iload dL_law_867 0 rfl ?_
  refine x_iconst (v := 3) dL_law_869 (by decide) ?_
  refine x_iaddN (a := i) (b := 3) dL_law_870 ?_
  refine x_sld dL_law_871 (vp_in_nI (by omega) (by omega)) ?_
  refine x_aload_n dL_law_872 1 rfl ?_
  refine x_iload dL_law_873 0 rfl ?_
  refine x_iconst (v := 4) dL_law_875 (by decide) ?_
  refine x_iaddN (a := i) (b := 4) dL_law_876 ?_
  refine x_sld dL_law_877 (vp_in_nI (by omega) (by omega)) ?_
  refine x_aload_n dL_law_878 1 rfl ?_
  refine x_iload dL_law_879 0 rfl ?_
  refine x_iconst (v := 5) dL_law_881 (by decide) ?_
  refine x_iaddN (a := i) (b := 5) dL_law_882 ?_
  refine x_sld dL_law_883 (vp_in_nI (by omega) (by omega)) ?_
  refine x_callV (rf' := 4) (rl' := 90) [.int (g_xs G (((nI (i + 1))).toNatClampNeg)), .int (g_xs G (((nI (i + 2))).toNatClampNeg)), .int (g_xs G (((nI (i + 3))).toNatClampNeg)), .int (g_xs G (((nI (i + 4))).toNatClampNeg)), .int (g_xs G (((nI (i + 5))).toNatClampNeg))] [] dL_law_884 vL_87 Y_X11_pads g3 (by decide) rfl rfl (Nat.le_of_ble_eq_true rfl) (Nat.le_of_ble_eq_true rfl) (by decide) (by decide) (k_pads hc ws) (fun r h1 e1 => ?_)
  obtain ⟨e0, hc1, fr⟩ := e1
  cases e0
  have fr : FrC h h1 := fr
  have hc1 : CL h1 (s_setPk s 0 (spPdK (sR s (g_xs G (((nI (i + 5))).toNatClampNeg))) (sC s (g_xs G (((nI (i + 5))).toNatClampNeg))) (g_xs G (((nI (i + 1))).toNatClampNeg)) (g_xs G (((nI (i + 2))).toNatClampNeg)) (g_xs G (((nI (i + 3))).toNatClampNeg)) (g_xs G (((nI (i + 4))).toNatClampNeg)) (s_tn s) (s_tv s) (s_pk s))) := hc1
  have hM1 := hM.frc fr
  obtain ⟨fs1, g36⟩ := hM1.cell
  refine x_aload_n dL_law_887 3 rfl ?_
  refine x_aload_n dL_law_888 1 rfl ?_
  refine x_iload dL_law_889 0 rfl ?_
  refine x_iconst (v := 1) dL_law_891 (by decide) ?_
  refine x_iaddN (a := i) (b := 1) dL_law_892 ?_
  refine x_sld dL_law_893 (vp_in_nI (by omega) (by omega)) ?_
  refine x_aload_n dL_law_894 1 rfl ?_
  refine x_iload dL_law_895 0 rfl ?_
  refine x_iconst (v := 2) dL_law_897 (by decide) ?_
  refine x_iaddN (a := i) (b := 2) dL_law_898 ?_
  refine x_sld dL_law_899 (vp_in_nI (by omega) (by omega)) ?_
  refine x_aload_n dL_law_900 1 rfl ?_
  refine x_iload dL_law_901 0 rfl ?_
  refine x_iconst (v := 3) dL_law_903 (by decide) ?_
  refine x_iaddN (a := i) (b := 3) dL_law_904 ?_
  refine x_sld dL_law_905 (vp_in_nI (by omega) (by omega)) ?_
  refine x_aload_n dL_law_906 1 rfl ?_
  refine x_iload dL_law_907 0 rfl ?_
  refine x_iconst (v := 4) dL_law_909 (by decide) ?_
  refine x_iaddN (a := i) (b := 4) dL_law_910 ?_
  refine x_sld dL_law_911 (vp_in_nI (by omega) (by omega)) ?_
  refine x_aload_n dL_law_912 1 rfl ?_
  refine x_iload dL_law_913 0 rfl ?_
  refine x_iconst (v := 5) dL_law_915 (by decide) ?_
  refine x_iaddN (a := i) (b := 5) dL_law_916 ?_
  refine x_sld dL_law_917 (vp_in_nI (by omega) (by omega)) ?_
  refine x_callV (rf' := 3) (rl' := 65) [.int (g_xs G (((nI (i + 1))).toNatClampNeg)), .int (g_xs G (((nI (i + 2))).toNatClampNeg)), .int (g_xs G (((nI (i + 3))).toNatClampNeg)), .int (g_xs G (((nI (i + 4))).toNatClampNeg)), .int (g_xs G (((nI (i + 5))).toNatClampNeg))] [.int (spPdA (sR s (g_xs G (((nI (i + 5))).toNatClampNeg))) (sC s (g_xs G (((nI (i + 5))).toNatClampNeg))) (g_xs G (((nI (i + 1))).toNatClampNeg)) (g_xs G (((nI (i + 2))).toNatClampNeg)) (g_xs G (((nI (i + 3))).toNatClampNeg)) (g_xs G (((nI (i + 4))).toNatClampNeg)) (s_tn s) (s_tv s))] dL_law_918 vL_90 Y_X12_pads g36 (by decide) rfl rfl (Nat.le_of_ble_eq_true rfl) (Nat.le_of_ble_eq_true rfl) (by decide) (by decide) (m_pads hM1 ws) (fun r h2 e1 => ?_)
  obtain ⟨e0, hM2, sm2⟩ := e1
  cases e0
  refine x_icmp_eq (tgt := 1240) dL_law_921 (by decide) (fun c_921 => ?_) (fun c_921 => absurd rfl c_921)
  refine x_perm [0, 1, 2, 3, 4] rfl ?_
  exact KX h2 (s_setPk s 0 (spPdK (sR s (g_xs G (((nI (i + 5))).toNatClampNeg))) (sC s (g_xs G (((nI (i + 5))).toNatClampNeg))) (g_xs G (((nI (i + 1))).toNatClampNeg)) (g_xs G (((nI (i + 2))).toNatClampNeg)) (g_xs G (((nI (i + 3))).toNatClampNeg)) (g_xs G (((nI (i + 4))).toNatClampNeg)) (s_tn s) (s_tv s) (s_pk s))) (I.step fr hc1 sm2 (by decide) hM2 (⟨ws.1, ws.2.1, Nat.zero_le _, fun j hj => absurd hj (Nat.not_lt_zero j), ws.2.2.2.2⟩))

set_option maxRecDepth 100000 in
set_option maxHeartbeats 4000000 in
theorem law_16 {G : GT} {h : List PE} {s : ST} {n i : Nat} {Q : OT → Prop} (hL : g_L G ≤ 3584) (hi : i + 7 ≤ g_L G) (I : LI h s n) (KX : ∀ (h1 : List PE) (s1 : ST), LI h1 s1 (n + 1) → X (NF G) G mL_law 8 184 1240 [(4, .int (nI i)), (0, .ref 0), (1, .ref 3), (2, .ref 36), (3, .ref 50)] [] h1 Q) : X (NF G) G mL_law 8 184 926 [(4, .int (nI i)), (0, .ref 0), (1, .ref 3), (2, .ref 36), (3, .ref 50)] [] h Q := by
  obtain ⟨hc, hM, ws, hout, l1, l2⟩ := id I
  have g3 : h[3]? = some (cO 11 [.ref 4, .ref 6, .ref 15, .ref 16, .ref 21, .ref 25, .ref 32, .ref 35, .int (nI (s_n s)), .int (nI (s_td s)), .int (s_fl s), .int (s_br s)]) := hc.1
  refine x_aload_n dL_law_926 2 rfl ?_
  refine x_aload_n dL_law_927 1 rfl ?_
  refine x_iload dL_law_928 0 rfl ?_
  refine x_iconst (v := 1) dL_law_930 (by decide) ?_
  refine x_iaddN (a := i) (b := 1) dL_law_931 ?_
  refine x_sld dL_law_932 (vp_in_nI (by omega) (by omega)) ?_
  refine x_callV (rf' := 1) (rl' := 20) [.int (g_xs G (((nI (i + 1))).toNatClampNeg))] [] dL_law_933 vL_91 Y_X11_padAt g3 (by decide) rfl rfl (Nat.le_of_ble_eq_true rfl) (Nat.le_of_ble_eq_true rfl) (by decide) (by decide) (k_padAt hc ws) (fun r h1 e1 => ?_)
  obtain ⟨e0, hc1, fr⟩ := e1
  cases e0
  have fr : FrC h h1 := fr
  have hc1 : CL h1 (s) := hc1
  have hM1 := hM.frc fr
  obtain ⟨fs1, g36⟩ := hM1.cell
  refine x_aload_n dL_law_936 3 rfl ?_
  refine x_aload_n dL_law_937 1 rfl ?_
  refine x_iload dL_law_938 0 rfl ?_
  refine x_iconst (v := 1) dL_law_940 (by decide) ?_
  refine x_iaddN (a := i) (b := 1) dL_law_941 ?_
  refine x_sld dL_law_942 (vp_in_nI (by omega) (by omega)) ?_
  refine x_callV (rf' := 1) (rl' := 22) [.int (g_xs G (((nI (i + 1))).toNatClampNeg))] [.int (spPadAt (s_pk s) (g_xs G (((nI (i + 1))).toNatClampNeg)))] dL_law_943 vL_94 Y_X12_padAt g36 (by decide) rfl rfl (Nat.le_of_ble_eq_true rfl) (Nat.le_of_ble_eq_true rfl) (by decide) (by decide) (m_padAt hM1) (fun r h2 e1 => ?_)
  obtain ⟨e0, hM2, sm2⟩ := e1
  cases e0
  refine x_icmp_eq (tgt := 1240) dL_law_946 (by decide) (fun c_946 => ?_) (fun c_946 => absurd rfl c_946)
  refine x_perm [0, 1, 2, 3, 4] rfl ?_
  exact KX h2 (s) (I.step fr hc1 sm2 (by decide) hM2 (ws))

set_option maxRecDepth 100000 in
set_option maxHeartbeats 4000000 in
theorem law_17 {G : GT} {h : List PE} {s : ST} {n i : Nat} {Q : OT → Prop} (hL : g_L G ≤ 3584) (hi : i + 7 ≤ g_L G) (I : LI h s n) (KX : ∀ (h1 : List PE) (s1 : ST), LI h1 s1 (n + 1) → X (NF G) G mL_law 8 184 1240 [(4, .int (nI i)), (0, .ref 0), (1, .ref 3), (2, .ref 36), (3, .ref 50)] [] h1 Q) : X (NF G) G mL_law 8 184 951 [(4, .int (nI i)), (0, .ref 0), (1, .ref 3), (2, .ref 36), (3, .ref 50)] [] h Q := by
  obtain ⟨hc, hM, ws, hout, l1, l2⟩ := id I
  have g3 : h[3]? = some (cO 11 [.ref 4, .ref 6, .ref 15, .ref 16, .ref 21, .ref 25, .ref 32, .ref 35, .int (nI (s_n s)), .int (nI (s_td s)), .int (s_fl s), .int (s_br s)]) := hc.1
  refine x_aload_n dL_law_951 2 rfl ?_
  refine x_aload_n dL_law_952 1 rfl ?_
  refine x_iload dL_law_953 0 rfl ?_
  refine x_iconst (v := 1) dL_law_955 (by decide) ?_
  refine x_iaddN (a := i) (b := 1) dL_law_956 ?_
  refine x_sld dL_law_957 (vp_in_nI (by omega) (by omega)) ?_
  refine x_aload_n dL_law_958 1 rfl ?_
  refine x_iload dL_law_959 0 rfl ?_
  refine x_iconst (v := 2) dL_law_961 (by decide) ?_
  refine x_iaddN (a := i) (b := 2) dL_law_962 ?_
  refine x_sld dL_law_963 (vp_in_nI (by omega) (by omega)) ?_
  refine x_aload_n dL_law_964 1 rfl ?_
  refine x_iload dL_law_965 0 rfl ?_
  refine x_iconst (v := 3) dL_law_967 (by decide) ?_
  refine x_iaddN (a := i) (b := 3) dL_law_968 ?_
  refine x_sld dL_law_969 (vp_in_nI (by omega) (by omega)) ?_
  refine x_callV (rf' := 3) (rl' := 73) [.int (g_xs G (((nI (i + 1))).toNatClampNeg)), .int (g_xs G (((nI (i + 2))).toNatClampNeg)), .int (g_xs G (((nI (i + 3))).toNatClampNeg))] [] dL_law_970 vL_95 Y_X11_boxes g3 (by decide) rfl rfl (Nat.le_of_ble_eq_true rfl) (Nat.le_of_ble_eq_true rfl) (by decide) (by decide) (k_boxes hc ws) (fun r h1 e1 => ?_)
  obtain ⟨e0, hc1, fr⟩ := e1
  cases e0
  have fr : FrC h h1 := fr
  have hc1 : CL h1 (s_setBs s (spBs (sR s (g_xs G (((nI (i + 3))).toNatClampNeg))) (sC s (g_xs G (((nI (i + 3))).toNatClampNeg))) (g_xs G (((nI (i + 1))).toNatClampNeg)) (g_xs G (((nI (i + 2))).toNatClampNeg)) (s_bs s))) := hc1
  have hM1 := hM.frc fr
  obtain ⟨fs1, g36⟩ := hM1.cell
  refine x_aload_n dL_law_973 3 rfl ?_
  refine x_aload_n dL_law_974 1 rfl ?_
  refine x_iload dL_law_975 0 rfl ?_
  refine x_iconst (v := 1) dL_law_977 (by decide) ?_
  refine x_iaddN (a := i) (b := 1) dL_law_978 ?_
  refine x_sld dL_law_979 (vp_in_nI (by omega) (by omega)) ?_
  refine x_aload_n dL_law_980 1 rfl ?_
  refine x_iload dL_law_981 0 rfl ?_
  refine x_iconst (v := 2) dL_law_983 (by decide) ?_
  refine x_iaddN (a := i) (b := 2) dL_law_984 ?_
  refine x_sld dL_law_985 (vp_in_nI (by omega) (by omega)) ?_
  refine x_aload_n dL_law_986 1 rfl ?_
  refine x_iload dL_law_987 0 rfl ?_
  refine x_iconst (v := 3) dL_law_989 (by decide) ?_
  refine x_iaddN (a := i) (b := 3) dL_law_990 ?_
  refine x_sld dL_law_991 (vp_in_nI (by omega) (by omega)) ?_
  refine x_callV (rf' := 4) (rl' := 102) [.int (g_xs G (((nI (i + 1))).toNatClampNeg)), .int (g_xs G (((nI (i + 2))).toNatClampNeg)), .int (g_xs G (((nI (i + 3))).toNatClampNeg))] [.int (spBx (sR s (g_xs G (((nI (i + 3))).toNatClampNeg))) (sC s (g_xs G (((nI (i + 3))).toNatClampNeg))) (g_xs G (((nI (i + 1))).toNatClampNeg)) (g_xs G (((nI (i + 2))).toNatClampNeg)))] dL_law_992 vL_98 Y_X12_boxes g36 (by decide) rfl rfl (Nat.le_of_ble_eq_true rfl) (Nat.le_of_ble_eq_true rfl) (by decide) (by decide) (m_boxes hM1 ws) (fun r h2 e1 => ?_)
  obtain ⟨e0, hM2, sm2⟩ := e1
  cases e0
  refine x_icmp_eq (tgt := 1240) dL_law_995 (by decide) (fun c_995 => ?_) (fun c_995 => absurd rfl c_995)
  refine x_perm [0, 1, 2, 3, 4] rfl ?_
  exact KX h2 (s_setBs s (spBs (sR s (g_xs G (((nI (i + 3))).toNatClampNeg))) (sC s (g_xs G (((nI (i + 3))).toNatClampNeg))) (g_xs G (((nI (i + 1))).toNatClampNeg)) (g_xs G (((nI (i + 2))).toNatClampNeg)) (s_bs s))) (I.step fr hc1 sm2 (by decide) hM2 (ws))

set_option maxRecDepth 100000 in
set_option maxHeartbeats 4000000 in
theorem law_18 {G : GT} {h : List PE} {s : ST} {n i : Nat} {Q : OT → Prop} (hL : g_L G ≤ 3584) (hi : i + 7 ≤ g_L G) (I : LI h s n) (KX : ∀ (h1 : List PE) (s1 : ST), LI h1 s1 (n + 1) → X (NF G) G mL_law 8 184 1240 [(4, .int (nI i)), (0, .ref 0), (1, .ref 3), (2, .ref 36), (3, .ref 50)] [] h1 Q) : X (NF G) G mL_law 8 184 1000 [(4, .int (nI i)), (0, .ref 0), (1, .ref 3), (2, .ref 36), (3, .ref 50)] [] h Q := by
  obtain ⟨hc, hM, ws, hout, l1, l2⟩ := id I
  have g3 : h[3]? = some (cO 11 [.ref 4, .ref 6, .ref 15, .ref 16, .ref 21, .ref 25, .ref 32, .ref 35, .int (nI (s_n s)), .int (nI (s_td s)), .int (s_fl s), .int (s_br s)]) := hc.1
  refine x_aload_n dL_law_1000 2 rfl ?_
  refine x_callV (rf' := 0) (rl' := 0) [] [] dL_law_1001 vL_99 Y_X11_boxSet g3 (by decide) rfl rfl (Nat.le_of_ble_eq_true rfl) (Nat.le_of_ble_eq_true rfl) (by decide) (by decide) (k_boxSet hc ws) (fun r h1 e1 => ?_)
  obtain ⟨e0, hc1, fr⟩ := e1
  cases e0
  have fr : FrC h h1 := fr
  have hc1 : CL h1 (s) := hc1
  have hM1 := hM.frc fr
  obtain ⟨fs1, g36⟩ := hM1.cell
  refine x_aload_n dL_law_1004 3 rfl ?_
  refine x_callV (rf' := 0) (rl' := 0) [] [.int (s_bs s)] dL_law_1005 vL_102 Y_X12_boxSet g36 (by decide) rfl rfl (Nat.le_of_ble_eq_true rfl) (Nat.le_of_ble_eq_true rfl) (by decide) (by decide) (m_boxSet hM1) (fun r h2 e1 => ?_)
  obtain ⟨e0, hM2, sm2⟩ := e1
  cases e0
  refine x_icmp_eq (tgt := 1240) dL_law_1008 (by decide) (fun c_1008 => ?_) (fun c_1008 => absurd rfl c_1008)
  refine x_perm [0, 1, 2, 3, 4] rfl ?_
  exact KX h2 (s) (I.step fr hc1 sm2 (by decide) hM2 (ws))

set_option maxRecDepth 100000 in
set_option maxHeartbeats 4000000 in
theorem law_19 {G : GT} {h : List PE} {s : ST} {n i : Nat} {Q : OT → Prop} (hL : g_L G ≤ 3584) (hi : i + 7 ≤ g_L G) (I : LI h s n) (KX : ∀ (h1 : List PE) (s1 : ST), LI h1 s1 (n + 1) → X (NF G) G mL_law 8 184 1240 [(4, .int (nI i)), (0, .ref 0), (1, .ref 3), (2, .ref 36), (3, .ref 50)] [] h1 Q) : X (NF G) G mL_law 8 184 1013 [(4, .int (nI i)), (0, .ref 0), (1, .ref 3), (2, .ref 36), (3, .ref 50)] [] h Q := by
  obtain ⟨hc, hM, ws, hout, l1, l2⟩ := id I
  have g3 : h[3]? = some (cO 11 [.ref 4, .ref 6, .ref 15, .ref 16, .ref 21, .ref 25, .ref 32, .ref 35, .int (nI (s_n s)), .int (nI (s_td s)), .int (s_fl s), .int (s_br s)]) := hc.1
  refine x_aload_n dL_law_1013 2 rfl ?_
  refine x_aload_n dL_law_1014 1 rfl ?_
  refine x_iload dL_law_1015 0 rfl ?_
  refine x_iconst (v := 1) dL_law_1017 (by decide) ?_
  refine x_iaddN (a := i) (b := 1) dL_law_1018 ?_
  refine x_sld dL_law_1019 (vp_in_nI (by omega) (by omega)) ?_
  refine x_aload_n dL_law_1020 1 rfl ?_
  refine x_iload dL_law_1021 0 rfl ?_
  refine x_iconst (v := 2) dL_law_1023 (by decide) ?_
  refine x_iaddN (a := i) (b := 2) dL_law_1024 ?_
  refine x_sld dL_law_1025 (vp_in_nI (by omega) (by omega)) ?_
  refine x_aload_n dL_law_1026 1 rfl ?_
  refine x_iload dL_law_1027 0 rfl ?_
  refine x_iconst (v := 3) dL_law_1029 (by decide) ?_
  refine x_iaddN (a := i) (b := 3) dL_law_1030 ?_
  refine x_sld dL_law_1031 (vp_in_nI (by omega) (by omega)) ?_
  refine x_aload_n dL_law_1032 1 rfl ?_
  refine x_iload dL_law_1033 0 rfl ?_
  refine x_iconst (v := 4) dL_law_1035 (by decide) ?_
  refine x_iaddN (a := i) (b := 4) dL_law_1036 ?_
  refine x_sld dL_law_1037 (vp_in_nI (by omega) (by omega)) ?_
  refine x_callV (rf' := 2) (rl' := 44) [.int (g_xs G (((nI (i + 1))).toNatClampNeg)), .int (g_xs G (((nI (i + 2))).toNatClampNeg)), .int (g_xs G (((nI (i + 3))).toNatClampNeg)), .int (g_xs G (((nI (i + 4))).toNatClampNeg))] [] dL_law_1038 vL_103 Y_X11_stack g3 (by decide) rfl rfl (Nat.le_of_ble_eq_true rfl) (Nat.le_of_ble_eq_true rfl) (by decide) (by decide) (k_stack hc ws) (fun r h1 e1 => ?_)
  obtain ⟨e0, hc1, fr⟩ := e1
  cases e0
  have fr : FrC h h1 := fr
  have hc1 : CL h1 (s_setTn s 0) := hc1
  have hM1 := hM.frc fr
  obtain ⟨fs1, g36⟩ := hM1.cell
  refine x_aload_n dL_law_1041 3 rfl ?_
  refine x_aload_n dL_law_1042 1 rfl ?_
  refine x_iload dL_law_1043 0 rfl ?_
  refine x_iconst (v := 1) dL_law_1045 (by decide) ?_
  refine x_iaddN (a := i) (b := 1) dL_law_1046 ?_
  refine x_sld dL_law_1047 (vp_in_nI (by omega) (by omega)) ?_
  refine x_aload_n dL_law_1048 1 rfl ?_
  refine x_iload dL_law_1049 0 rfl ?_
  refine x_iconst (v := 2) dL_law_1051 (by decide) ?_
  refine x_iaddN (a := i) (b := 2) dL_law_1052 ?_
  refine x_sld dL_law_1053 (vp_in_nI (by omega) (by omega)) ?_
  refine x_aload_n dL_law_1054 1 rfl ?_
  refine x_iload dL_law_1055 0 rfl ?_
  refine x_iconst (v := 3) dL_law_1057 (by decide) ?_
  refine x_iaddN (a := i) (b := 3) dL_law_1058 ?_
  refine x_sld dL_law_1059 (vp_in_nI (by omega) (by omega)) ?_
  refine x_aload_n dL_law_1060 1 rfl ?_
  refine x_iload dL_law_1061 0 rfl ?_
  refine x_iconst (v := 4) dL_law_1063 (by decide) ?_
  refine x_iaddN (a := i) (b := 4) dL_law_1064 ?_
  refine x_sld dL_law_1065 (vp_in_nI (by omega) (by omega)) ?_
  refine x_callV (rf' := 3) (rl' := 65) [.int (g_xs G (((nI (i + 1))).toNatClampNeg)), .int (g_xs G (((nI (i + 2))).toNatClampNeg)), .int (g_xs G (((nI (i + 3))).toNatClampNeg)), .int (g_xs G (((nI (i + 4))).toNatClampNeg))] [.int (spStack (sR s (g_xs G (((nI (i + 4))).toNatClampNeg))) (sC s (g_xs G (((nI (i + 4))).toNatClampNeg))) (g_xs G (((nI (i + 1))).toNatClampNeg)) (g_xs G (((nI (i + 2))).toNatClampNeg)) (g_xs G (((nI (i + 3))).toNatClampNeg)) (s_tn s) (s_tv s))] dL_law_1066 vL_106 Y_X12_stack g36 (by decide) rfl rfl (Nat.le_of_ble_eq_true rfl) (Nat.le_of_ble_eq_true rfl) (by decide) (by decide) (m_stack hM1 ws) (fun r h2 e1 => ?_)
  obtain ⟨e0, hM2, sm2⟩ := e1
  cases e0
  refine x_icmp_eq (tgt := 1240) dL_law_1069 (by decide) (fun c_1069 => ?_) (fun c_1069 => absurd rfl c_1069)
  refine x_perm [0, 1, 2, 3, 4] rfl ?_
  exact KX h2 (s_setTn s 0) (I.step fr hc1 sm2 (by decide) hM2 (ws_tn ws (Nat.zero_le _)))

set_option maxRecDepth 100000 in
set_option maxHeartbeats 4000000 in
theorem law_21 {G : GT} {h : List PE} {s : ST} {n i : Nat} {Q : OT → Prop} (hL : g_L G ≤ 3584) (hi : i + 7 ≤ g_L G) (I : LI h s n) (KX : ∀ (h1 : List PE) (s1 : ST), LI h1 s1 (n + 1) → X (NF G) G mL_law 8 184 1240 [(4, .int (nI i)), (0, .ref 0), (1, .ref 3), (2, .ref 36), (3, .ref 50)] [] h1 Q) : X (NF G) G mL_law 8 184 1141 [(4, .int (nI i)), (0, .ref 0), (1, .ref 3), (2, .ref 36), (3, .ref 50)] [] h Q := by
  obtain ⟨hc, hM, ws, hout, l1, l2⟩ := id I
  have g3 : h[3]? = some (cO 11 [.ref 4, .ref 6, .ref 15, .ref 16, .ref 21, .ref 25, .ref 32, .ref 35, .int (nI (s_n s)), .int (nI (s_td s)), .int (s_fl s), .int (s_br s)]) := hc.1
  refine x_aload_n dL_law_1141 2 rfl ?_
  refine x_aload_n dL_law_1142 1 rfl ?_
  refine x_iload dL_law_1143 0 rfl ?_
  refine x_iconst (v := 1) dL_law_1145 (by decide) ?_
  refine x_iaddN (a := i) (b := 1) dL_law_1146 ?_
  refine x_sld dL_law_1147 (vp_in_nI (by omega) (by omega)) ?_
  refine x_aload_n dL_law_1148 1 rfl ?_
  refine x_iload dL_law_1149 0 rfl ?_
  refine x_iconst (v := 2) dL_law_1151 (by decide) ?_
  refine x_iaddN (a := i) (b := 2) dL_law_1152 ?_
  refine x_sld dL_law_1153 (vp_in_nI (by omega) (by omega)) ?_
  refine x_callV (rf' := 1) (rl' := 25) [.int (g_xs G (((nI (i + 1))).toNatClampNeg)), .int (g_xs G (((nI (i + 2))).toNatClampNeg))] [] dL_law_1154 vL_116 Y_X11_proved g3 (by decide) rfl rfl (Nat.le_of_ble_eq_true rfl) (Nat.le_of_ble_eq_true rfl) (by decide) (by decide) (k_proved hc ws) (fun r h1 e1 => ?_)
  obtain ⟨e0, hc1, fr⟩ := e1
  cases e0
  have fr : FrC h h1 := fr
  have hc1 : CL h1 (s) := hc1
  have hM1 := hM.frc fr
  obtain ⟨fs1, g36⟩ := hM1.cell
  refine x_aload_n dL_law_1157 3 rfl ?_
  refine x_aload_n dL_law_1158 1 rfl ?_
  refine x_iload dL_law_1159 0 rfl ?_
  refine x_iconst (v := 1) dL_law_1161 (by decide) ?_
  refine x_iaddN (a := i) (b := 1) dL_law_1162 ?_
  refine x_sld dL_law_1163 (vp_in_nI (by omega) (by omega)) ?_
  refine x_aload_n dL_law_1164 1 rfl ?_
  refine x_iload dL_law_1165 0 rfl ?_
  refine x_iconst (v := 2) dL_law_1167 (by decide) ?_
  refine x_iaddN (a := i) (b := 2) dL_law_1168 ?_
  refine x_sld dL_law_1169 (vp_in_nI (by omega) (by omega)) ?_
  refine x_callV (rf' := 1) (rl' := 25) [.int (g_xs G (((nI (i + 1))).toNatClampNeg)), .int (g_xs G (((nI (i + 2))).toNatClampNeg))] [.int (spProved (g_xs G (((nI (i + 1))).toNatClampNeg)) (g_xs G (((nI (i + 2))).toNatClampNeg)))] dL_law_1170 vL_119 Y_X12_proved g36 (by decide) rfl rfl (Nat.le_of_ble_eq_true rfl) (Nat.le_of_ble_eq_true rfl) (by decide) (by decide) (m_proved hM1) (fun r h2 e1 => ?_)
  obtain ⟨e0, hM2, sm2⟩ := e1
  cases e0
  refine x_icmp_eq (tgt := 1240) dL_law_1173 (by decide) (fun c_1173 => ?_) (fun c_1173 => absurd rfl c_1173)
  refine x_perm [0, 1, 2, 3, 4] rfl ?_
  exact KX h2 (s) (I.step fr hc1 sm2 (by decide) hM2 (ws))

set_option maxRecDepth 100000 in
set_option maxHeartbeats 4000000 in
theorem law_22 {G : GT} {h : List PE} {s : ST} {n i : Nat} {Q : OT → Prop} (hL : g_L G ≤ 3584) (hi : i + 7 ≤ g_L G) (I : LI h s n) (KX : ∀ (h1 : List PE) (s1 : ST), LI h1 s1 (n + 1) → X (NF G) G mL_law 8 184 1240 [(4, .int (nI i)), (0, .ref 0), (1, .ref 3), (2, .ref 36), (3, .ref 50)] [] h1 Q) : X (NF G) G mL_law 8 184 1178 [(4, .int (nI i)), (0, .ref 0), (1, .ref 3), (2, .ref 36), (3, .ref 50)] [] h Q := by
  obtain ⟨hc, hM, ws, hout, l1, l2⟩ := id I
  have g3 : h[3]? = some (cO 11 [.ref 4, .ref 6, .ref 15, .ref 16, .ref 21, .ref 25, .ref 32, .ref 35, .int (nI (s_n s)), .int (nI (s_td s)), .int (s_fl s), .int (s_br s)]) := hc.1
  refine x_aload_n dL_law_1178 2 rfl ?_
  refine x_aload_n dL_law_1179 1 rfl ?_
  refine x_iload dL_law_1180 0 rfl ?_
  refine x_iconst (v := 1) dL_law_1182 (by decide) ?_
  refine x_iaddN (a := i) (b := 1) dL_law_1183 ?_
  refine x_sld dL_law_1184 (vp_in_nI (by omega) (by omega)) ?_
  refine x_aload_n dL_law_1185 1 rfl ?_
  refine x_iload dL_law_1186 0 rfl ?_
  refine x_iconst (v := 2) dL_law_1188 (by decide) ?_
  refine x_iaddN (a := i) (b := 2) dL_law_1189 ?_
  refine x_sld dL_law_1190 (vp_in_nI (by omega) (by omega)) ?_
  refine x_callV (rf' := 0) (rl' := 0) [.int (g_xs G (((nI (i + 1))).toNatClampNeg)), .int (g_xs G (((nI (i + 2))).toNatClampNeg))] [] dL_law_1191 vL_120 Y_X11_needed g3 (by decide) rfl rfl (Nat.le_of_ble_eq_true rfl) (Nat.le_of_ble_eq_true rfl) (by decide) (by decide) (k_needed hc ws) (fun r h1 e1 => ?_)
  obtain ⟨e0, hc1, fr⟩ := e1
  cases e0
  have fr : FrC h h1 := fr
  have hc1 : CL h1 (s) := hc1
  have hM1 := hM.frc fr
  obtain ⟨fs1, g36⟩ := hM1.cell
  refine x_aload_n dL_law_1194 3 rfl ?_
  refine x_aload_n dL_law_1195 1 rfl ?_
  refine x_iload dL_law_1196 0 rfl ?_
  refine x_iconst (v := 1) dL_law_1198 (by decide) ?_
  refine x_iaddN (a := i) (b := 1) dL_law_1199 ?_
  refine x_sld dL_law_1200 (vp_in_nI (by omega) (by omega)) ?_
  refine x_aload_n dL_law_1201 1 rfl ?_
  refine x_iload dL_law_1202 0 rfl ?_
  refine x_iconst (v := 2) dL_law_1204 (by decide) ?_
  refine x_iaddN (a := i) (b := 2) dL_law_1205 ?_
  refine x_sld dL_law_1206 (vp_in_nI (by omega) (by omega)) ?_
  refine x_callV (rf' := 1) (rl' := 22) [.int (g_xs G (((nI (i + 1))).toNatClampNeg)), .int (g_xs G (((nI (i + 2))).toNatClampNeg))] [.int (spNeeded (g_xs G (((nI (i + 1))).toNatClampNeg)) (g_xs G (((nI (i + 2))).toNatClampNeg)))] dL_law_1207 vL_123 Y_X12_needed g36 (by decide) rfl rfl (Nat.le_of_ble_eq_true rfl) (Nat.le_of_ble_eq_true rfl) (by decide) (by decide) (m_needed hM1) (fun r h2 e1 => ?_)
  obtain ⟨e0, hM2, sm2⟩ := e1
  cases e0
  refine x_icmp_eq (tgt := 1240) dL_law_1210 (by decide) (fun c_1210 => ?_) (fun c_1210 => absurd rfl c_1210)
  refine x_perm [0, 1, 2, 3, 4] rfl ?_
  exact KX h2 (s) (I.step fr hc1 sm2 (by decide) hM2 (ws))

set_option maxRecDepth 100000 in
set_option maxHeartbeats 4000000 in
theorem law_23 {G : GT} {h : List PE} {s : ST} {n i : Nat} {Q : OT → Prop} (hL : g_L G ≤ 3584) (hi : i + 7 ≤ g_L G) (I : LI h s n) (KX : ∀ (h1 : List PE) (s1 : ST), LI h1 s1 (n + 1) → X (NF G) G mL_law 8 184 1240 [(4, .int (nI i)), (0, .ref 0), (1, .ref 3), (2, .ref 36), (3, .ref 50)] [] h1 Q) : X (NF G) G mL_law 8 184 1215 [(4, .int (nI i)), (0, .ref 0), (1, .ref 3), (2, .ref 36), (3, .ref 50)] [] h Q := by
  obtain ⟨hc, hM, ws, hout, l1, l2⟩ := id I
  have g3 : h[3]? = some (cO 11 [.ref 4, .ref 6, .ref 15, .ref 16, .ref 21, .ref 25, .ref 32, .ref 35, .int (nI (s_n s)), .int (nI (s_td s)), .int (s_fl s), .int (s_br s)]) := hc.1
  refine x_aload_n dL_law_1215 2 rfl ?_
  refine x_aload_n dL_law_1216 1 rfl ?_
  refine x_iload dL_law_1217 0 rfl ?_
  refine x_iconst (v := 1) dL_law_1219 (by decide) ?_
  refine x_iaddN (a := i) (b := 1) dL_law_1220 ?_
  refine x_sld dL_law_1221 (vp_in_nI (by omega) (by omega)) ?_
  refine x_callV (rf' := 0) (rl' := 0) [.int (g_xs G (((nI (i + 1))).toNatClampNeg))] [] dL_law_1222 vL_124 Y_X11_count g3 (by decide) rfl rfl (Nat.le_of_ble_eq_true rfl) (Nat.le_of_ble_eq_true rfl) (by decide) (by decide) (k_count hc ws) (fun r h1 e1 => ?_)
  obtain ⟨e0, hc1, fr⟩ := e1
  cases e0
  have fr : FrC h h1 := fr
  have hc1 : CL h1 (s) := hc1
  have hM1 := hM.frc fr
  obtain ⟨fs1, g36⟩ := hM1.cell
  refine x_aload_n dL_law_1225 3 rfl ?_
  refine x_aload_n dL_law_1226 1 rfl ?_
  refine x_iload dL_law_1227 0 rfl ?_
  refine x_iconst (v := 1) dL_law_1229 (by decide) ?_
  refine x_iaddN (a := i) (b := 1) dL_law_1230 ?_
  refine x_sld dL_law_1231 (vp_in_nI (by omega) (by omega)) ?_
  refine x_callV (rf' := 0) (rl' := 0) [.int (g_xs G (((nI (i + 1))).toNatClampNeg))] [.int (spCount (s_td s) (s_n s) (s_tn s) (g_xs G (((nI (i + 1))).toNatClampNeg)))] dL_law_1232 vL_127 Y_X12_count g36 (by decide) rfl rfl (Nat.le_of_ble_eq_true rfl) (Nat.le_of_ble_eq_true rfl) (by decide) (by decide) (m_count hM1) (fun r h2 e1 => ?_)
  obtain ⟨e0, hM2, sm2⟩ := e1
  cases e0
  refine x_icmp_eq (tgt := 1240) dL_law_1235 (by decide) (fun c_1235 => ?_) (fun c_1235 => absurd rfl c_1235)
  refine x_perm [0, 1, 2, 3, 4] rfl ?_
  exact KX h2 (s) (I.step fr hc1 sm2 (by decide) hM2 (ws))

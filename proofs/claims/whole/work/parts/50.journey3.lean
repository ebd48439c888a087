theorem hdF_0 {ho : Nat → Bool} {sh : Nat → Nat} (h : ∀ i, ho i = false) : ∀ {m i : Nat}, hdF ho sh m i = 0
  | 0, _ => rfl
  | m + 1, i => by
    unfold hdF
    rw [h, hdF_0 h]
    rfl

set_option maxRecDepth 100000 in
set_option maxHeartbeats 4000000 in
theorem lm_jgHeld {G : GT} {h : List PE} {s : ST} {t : Int32} {k sd kf b fm : Nat} {p : Int64} {Q : OT → Prop} {siz too frm knd num sgn plc : Int32} {wrd : Int64} {tld ipd : Int32} {mt bk : Nat → Int32} (W : WFk (sR s t) (sC s t)) (hk : k < (sC s t).2.1) (RH : 484 * b + 484 ≤ 10164 ∧ ∀ j, j < 484 → bk (484 * b + j) = sR s t j) (hw9 : ¬ ((sR s t) (164 + 24 * k)).toInt64 = 0) (r1 : ∀ j, j < s_tn s → mt j = nI (s_tv s j)) (htn : s_tn s ≤ 640) (htv : ∀ j, j < s_tn s → s_tv s j < 256) (hsd : sd < 6) (WF : WFc (sR s t) (4 + 20 * kf)) (hpd : pdF (sR s t) (164 + 24 * k) sd = some kf) (L : MLaid h (sR s t) k sd kf 100) (f36 : h[36]? = some (cO 12 (MO 0 0 ((nI (s_td s))) ((nI (s_n s))) siz too frm knd num sgn ((s_fl s)) plc wrd tld ((nI (484 * b))) ((nI (PR (sR s t) (4 + 20 * kf) (npR (sR s t) (4 + 20 * kf) - 1)))) ((nI kf)) (((sR s t) (164 + 24 * k + 5 + 3 * sd + 1))) (((sR s t) (164 + 24 * k + 5 + 3 * sd + 2))) ((s_br s)) ipd ((s_bs s))))) (f37 : h[37]? = some (cI 640 mt)) (f38 : h[38]? = some (cI 10164 bk)) (hfm : fm + 10 ≤ s_tn s) : ∀ (m i acc : Nat), 3 - i = m → i ≤ 3 → acc ≤ 256 * i → X (NF G) G mX12_journey 3 65 292 [(9, .int (nI (acc + hdF (fun i => HO (sR s t) (164 + 24 * k) sd 100 ((sR s t) (164 + 24 * k)) (nI (jgH (s_tv s) fm i)) ((sR s t) (164 + 24 * k + 4))) (fun i => s_tv s (fm + 1 + 6 + i)) m i))), (8, .int 1), (7, .int (nI fm)), (5, .long p), (3, .int (nI (s_tn s))), (0, .ref 36), (1, .int (nI k))] [] h Q → X (NF G) G mX12_journey 3 65 232 [(10, .int (nI i)), (9, .int (nI acc)), (8, .int 1), (7, .int (nI fm)), (5, .long p), (3, .int (nI (s_tn s))), (0, .ref 36), (1, .int (nI k))] [] h Q := by
  have w4 := W.2.2.2.1
  intro m
  induction m with
  | zero =>
    intro i acc hm hi ha K
    refine x_iload dX12_journey_232 0 rfl ?_
    refine x_iconst (v := 3) dX12_journey_234 (by decide) ?_
    refine x_icmp_geN (tgt := 292) (a := i) (b := 3) (by omega) (by omega) dX12_journey_235 (by decide) (fun c_235 => ?_) (fun c_235 => absurd (by omega) c_235)
    refine x_perm [1, 2, 3, 4, 5, 6, 7] rfl ?_
    exact K
  | succ m ih =>
    intro i acc hm hi ha K
    have hb := htv (fm + 1 + 6 + i) (by omega)
    refine x_iload dX12_journey_232 0 rfl ?_
    refine x_iconst (v := 3) dX12_journey_234 (by decide) ?_
    refine x_icmp_geN (tgt := 292) (a := i) (b := 3) (by omega) (by omega) dX12_journey_235 (by decide) (fun c_235 => absurd c_235 (by omega)) (fun c_235 => ?_)
    refine x_iload dX12_journey_238 2 rfl ?_
    refine x_if_eq (tgt := 286) dX12_journey_240 (by decide) (fun c_240 => absurd c_240 (by decide)) (fun c_240 => ?_)
    refine x_aload_n dX12_journey_243 6 rfl ?_
    refine x_aload_n dX12_journey_244 6 rfl ?_
    refine x_iload_n dX12_journey_245 7 rfl ?_
    refine x_callV (rf' := 1) (rl' := 21) [.int (nI k)] [.ref 36] dX12_journey_246 vX12_255 Y_X12_weightOf f36 (by decide) rfl rfl (Nat.le_of_ble_eq_true rfl) (Nat.le_of_ble_eq_true rfl) (by decide) (by decide) (c_weightOfR f36 f38 RH (by omega)) (fun _ _ e1 => ?_)
    cases e1
    refine x_aload_n dX12_journey_249 6 rfl ?_
    refine x_iload dX12_journey_250 3 rfl ?_
    refine x_iload dX12_journey_252 0 rfl ?_
    refine x_callV (rf' := 0) (rl' := 0) [.int (nI fm), .int (nI i)] [.int ((sR s t) (164 + 24 * k)), .ref 36] dX12_journey_254 vX12_299 Y_X12_heightAt f36 (by decide) rfl rfl (Nat.le_of_ble_eq_true rfl) (Nat.le_of_ble_eq_true rfl) (by decide) (by decide) (c_heightAt f36 f37 r1 htn hfm (by omega)) (fun _ _ q1 => ?_)
    cases q1
    refine x_aload_n dX12_journey_257 6 rfl ?_
    refine x_iload_n dX12_journey_258 7 rfl ?_
    refine x_callV (rf' := 1) (rl' := 21) [.int (nI k)] [.int (nI (jgH (s_tv s) fm i)), .int ((sR s t) (164 + 24 * k)), .ref 36] dX12_journey_259 vX12_270 Y_X12_markOf f36 (by decide) rfl rfl (Nat.le_of_ble_eq_true rfl) (Nat.le_of_ble_eq_true rfl) (by decide) (by decide) (c_markOfR f36 f38 RH (by omega)) (fun _ _ e2 => ?_)
    cases e2
    refine x_callV (rf' := 1) (rl' := 29) [.int ((sR s t) (164 + 24 * k)), .int (nI (jgH (s_tv s) fm i)), .int ((sR s t) (164 + 24 * k + 4))] [] dX12_journey_262 vX12_273 Y_X12_holds f36 (by decide) rfl rfl (Nat.le_of_ble_eq_true rfl) (Nat.le_of_ble_eq_true rfl) (by decide) (by decide) (c_holdsM f36 L WF hpd hw9) (fun _ _ q1 => ?_)
    cases q1
    by_cases hO : HO (sR s t) (164 + 24 * k) sd 100 ((sR s t) (164 + 24 * k)) (nI (jgH (s_tv s) fm i)) ((sR s t) (164 + 24 * k + 4)) = true
    · rw [if_pos hO]
      refine x_if_eq (tgt := 286) dX12_journey_265 (by decide) (fun c_265 => absurd c_265 (by decide)) (fun c_265 => ?_)
      refine x_iload dX12_journey_268 1 rfl ?_
      refine x_aload_n dX12_journey_270 6 rfl ?_
      refine x_get (v := .ref 37) dX12_journey_271 fX12_7 f36 (by decide) rfl ?_
      refine x_iload dX12_journey_274 3 rfl ?_
      refine x_bipush (v := 7) dX12_journey_276 (by decide) ?_
      refine x_iaddN (a := fm) (b := 7) dX12_journey_278 ?_
      refine x_iload dX12_journey_279 0 rfl ?_
      refine x_iaddN (a := (fm + 7)) (b := i) dX12_journey_281 ?_
      refine x_ialdN (i := ((fm + 7) + i)) dX12_journey_282 f37 (by decide) (by omega) (by decide) ?_
      rw [r1 (fm + 7 + i) (by omega)]
      refine x_iaddN (a := acc) (b := (s_tv s (fm + 7 + i))) dX12_journey_283 ?_
      refine x_istore (lv2 := [(9, .int (nI (acc + (s_tv s (fm + 7 + i))))), (10, .int (nI i)), (8, .int 1), (7, .int (nI fm)), (5, .long p), (3, .int (nI (s_tn s))), (0, .ref 36), (1, .int (nI k))]) dX12_journey_284 (by decide) rfl ?_
      refine x_iincN (lv2 := [(10, .int (nI (i + 1))), (9, .int (nI (acc + (s_tv s (fm + 7 + i))))), (8, .int 1), (7, .int (nI fm)), (5, .long p), (3, .int (nI (s_tn s))), (0, .ref 36), (1, .int (nI k))]) dX12_journey_286 1 rfl (by decide) rfl ?_
      refine x_goto (tgt := 232) dX12_journey_289 (by decide) ?_
      refine x_perm [0, 1, 2, 3, 4, 5, 6, 7] rfl ?_
      refine ih (i + 1) (acc + s_tv s (fm + 7 + i)) (by omega) (by omega) (by have hb : s_tv s (fm + 7 + i) < 256 := hb; omega) ?_
      rw [show acc + s_tv s (fm + 7 + i) + hdF (fun i => HO (sR s t) (164 + 24 * k) sd 100 ((sR s t) (164 + 24 * k)) (nI (jgH (s_tv s) fm i)) ((sR s t) (164 + 24 * k + 4))) (fun i => s_tv s (fm + 1 + 6 + i)) m (i + 1) = acc + hdF (fun i => HO (sR s t) (164 + 24 * k) sd 100 ((sR s t) (164 + 24 * k)) (nI (jgH (s_tv s) fm i)) ((sR s t) (164 + 24 * k + 4))) (fun i => s_tv s (fm + 1 + 6 + i)) (m + 1) i from by (rw [hdF, if_pos hO, Nat.add_assoc])]
      exact K
    · rw [if_neg hO]
      refine x_if_eq (tgt := 286) dX12_journey_265 (by decide) (fun c_265 => ?_) (fun c_265 => absurd (by decide) c_265)
      refine x_iincN (lv2 := [(10, .int (nI (i + 1))), (9, .int (nI acc)), (8, .int 1), (7, .int (nI fm)), (5, .long p), (3, .int (nI (s_tn s))), (0, .ref 36), (1, .int (nI k))]) dX12_journey_286 0 rfl (by decide) rfl ?_
      refine x_goto (tgt := 232) dX12_journey_289 (by decide) ?_
      refine x_perm [0, 1, 2, 3, 4, 5, 6, 7] rfl ?_
      refine ih (i + 1) acc (by omega) (by omega) (by omega) ?_
      rw [show acc + hdF (fun i => HO (sR s t) (164 + 24 * k) sd 100 ((sR s t) (164 + 24 * k)) (nI (jgH (s_tv s) fm i)) ((sR s t) (164 + 24 * k + 4))) (fun i => s_tv s (fm + 1 + 6 + i)) m (i + 1) = acc + hdF (fun i => HO (sR s t) (164 + 24 * k) sd 100 ((sR s t) (164 + 24 * k)) (nI (jgH (s_tv s) fm i)) ((sR s t) (164 + 24 * k + 4))) (fun i => s_tv s (fm + 1 + 6 + i)) (m + 1) i from by (rw [hdF, if_neg hO, Nat.zero_add])]
      exact K

/-- the model within journey -/
def JrS (h : List PE) (s : ST) (b : Nat) (ipd : Int32) (mt bk : Nat → Int32) : Prop := ∃ (siz too frm knd num sgn plc : Int32) (wrd : Int64) (tld lst pfo thk are : Int32) (cv : Nat → Int32) (sv : Nat → Int64), h[36]? = some (cO 12 (MO 0 0 ((nI (s_td s))) ((nI (s_n s))) siz too frm knd num sgn ((s_fl s)) plc wrd tld ((nI (484 * b))) lst pfo thk are ((s_br s)) ipd ((s_bs s)))) ∧ h[37]? = some (cI 640 mt) ∧ h[38]? = some (cI 10164 bk) ∧ h[41]? = some (cI 96 cv) ∧ h[42]? = some (cJ 96 sv)

set_option maxRecDepth 100000 in
set_option maxHeartbeats 4000000 in
theorem lm_jgLegs {G : GT} {s : ST} {t ipd : Int32} {k b : Nat} {mt bk : Nat → Int32} (W : WFk (sR s t) (sC s t)) (hk : k < (sC s t).2.1) (RH : 484 * b + 484 ≤ 10164 ∧ ∀ j, j < 484 → bk (484 * b + j) = sR s t j) (hw9 : ¬ ((sR s t) (164 + 24 * k)).toInt64 = 0) (r1 : ∀ j, j < s_tn s → mt j = nI (s_tv s j)) (htn : s_tn s ≤ 640) (htv : ∀ j, j < s_tn s → s_tv s j < 256) (h10 : s_tn s % 10 = 0) : ∀ (m fm : Nat) (p : Int64) (h : List PE), s_tn s - fm = 10 * m → fm ≤ s_tn s → legsOk (s_tv s) m fm = true → JrS h s b ipd mt bk → X (NF G) G mX12_journey 3 65 191 [(7, .int (nI fm)), (5, .long p), (3, .int (nI (s_tn s))), (0, .ref 36), (1, .int (nI k))] [] h (fun o => o.1 = some (.long (jgP (sR s t) k (s_tv s) m fm p)) ∧ JrS o.2 s b ipd mt bk ∧ Sm [36, 41, 42] h o.2) := by
  have w4 := W.2.2.2.1
  have WT := W.2.2.2.2.2.2.2.2.2.1 k hk
  intro m
  induction m with
  | zero =>
    intro fm p h hm hf hl hS
    obtain ⟨siz, too, frm, knd, num, sgn, plc, wrd, tld, lst, pfo, thk, are, cv, sv, f36, f37, f38, f41, f42⟩ := id hS
    refine x_iload dX12_journey_191 0 rfl ?_
    refine x_iload_n dX12_journey_193 2 rfl ?_
    refine x_icmp_geN (tgt := 340) (a := fm) (b := (s_tn s)) (by omega) (by omega) dX12_journey_194 (by decide) (fun c_194 => ?_) (fun c_194 => absurd (by omega) c_194)
    refine x_lload dX12_journey_340 1 rfl ?_
    exact x_lret dX12_journey_342 rfl ⟨rfl, hS, Sm.rf⟩
  | succ m ih =>
    intro fm p h hm hf hl hS
    obtain ⟨siz, too, frm, knd, num, sgn, plc, wrd, tld, lst, pfo, thk, are, cv, sv, f36, f37, f38, f41, f42⟩ := id hS
    have sm0 : Sm [36, 41, 42] h h := Sm.rf
    rw [legsOk] at hl
    obtain ⟨hl1, hl2⟩ := Bool.and_eq_true_iff.mp hl
    obtain ⟨hsd, hsh⟩ := legOk_is hl1
    have js := jgS_le htv (show fm + 10 ≤ s_tn s by omega)
    have eS : s_tv s (fm + 7) + s_tv s (fm + 8) + s_tv s (fm + 9) = jgS (s_tv s) fm := rfl
    have eH : hdL (sR s t) k (s_tv s) fm = hdF (fun i => HO (sR s t) (164 + 24 * k) (s_tv s fm) 100 ((sR s t) (164 + 24 * k)) (nI (jgH (s_tv s) fm i)) ((sR s t) (164 + 24 * k + 4))) (fun i => s_tv s (fm + 1 + 6 + i)) 3 0 := rfl
    have esd := r1 fm (by omega)
    generalize s_tv s fm = sd at hsd esd eH
    refine x_iload dX12_journey_191 0 rfl ?_
    refine x_iload_n dX12_journey_193 2 rfl ?_
    refine x_icmp_geN (tgt := 340) (a := fm) (b := (s_tn s)) (by omega) (by omega) dX12_journey_194 (by decide) (fun c_194 => absurd c_194 (by omega)) (fun c_194 => ?_)
    refine x_aload_n dX12_journey_197 3 rfl ?_
    refine x_iload_n dX12_journey_198 4 rfl ?_
    refine x_aload_n dX12_journey_199 3 rfl ?_
    refine x_get (v := .ref 37) dX12_journey_200 fX12_7 f36 (by decide) rfl ?_
    refine x_iload dX12_journey_203 0 rfl ?_
    refine x_ialdN (i := fm) dX12_journey_205 f37 (by decide) (by omega) (by decide) ?_
    rw [esd]
    refine x_callV (rf' := 1) (rl' := 21) [.int (nI k), .int (nI sd)] [] dX12_journey_206 vX12_252 Y_X12_takePad f36 (by decide) rfl rfl (Nat.le_of_ble_eq_true rfl) (Nat.le_of_ble_eq_true rfl) (by decide) (by decide) (c_takePad f36 f38 RH (by omega) hsd) (fun r h101 e1 => ?_)
    obtain ⟨e0, g102, sm103⟩ := e1
    cases e0
    have f104 := sm103.at f37 (by decide)
    have f105 := sm103.at f38 (by decide)
    have f106 := sm103.at f41 (by decide)
    have f107 := sm103.at f42 (by decide)
    have sm108 := sm0.tr (sm103.wide (by decide))
    rcases pd_wf WT W.2.1 hsd with ⟨hpd, hp0⟩ | ⟨kf, hpd, hkf, hp0⟩
    · rw [if_pos (by rw [hp0]; decide)]
      refine x_istore (lv2 := [(8, .int 0), (7, .int (nI fm)), (5, .long p), (3, .int (nI (s_tn s))), (0, .ref 36), (1, .int (nI k))]) dX12_journey_209 (by decide) rfl ?_
      refine x_iload dX12_journey_211 0 rfl ?_
      refine x_if_eq (tgt := 226) dX12_journey_213 (by decide) (fun c_213 => ?_) (fun c_213 => absurd (by decide) c_213)
      refine x_iconst (v := 0) dX12_journey_226 (by decide) ?_
      refine x_istore (lv2 := [(9, .int 0), (8, .int 0), (7, .int (nI fm)), (5, .long p), (3, .int (nI (s_tn s))), (0, .ref 36), (1, .int (nI k))]) dX12_journey_227 (by decide) rfl ?_
      refine x_iconst (v := 0) dX12_journey_229 (by decide) ?_
      refine x_istore (lv2 := [(10, .int 0), (9, .int 0), (8, .int 0), (7, .int (nI fm)), (5, .long p), (3, .int (nI (s_tn s))), (0, .ref 36), (1, .int (nI k))]) dX12_journey_230 (by decide) rfl ?_
      refine x_iload dX12_journey_232 0 rfl ?_
      refine x_iconst (v := 3) dX12_journey_234 (by decide) ?_
      refine x_icmp_ge (tgt := 292) dX12_journey_235 (by decide) (fun c_235 => absurd c_235 (by decide)) (fun c_235 => ?_)
      refine x_iload dX12_journey_238 2 rfl ?_
      refine x_if_eq (tgt := 286) dX12_journey_240 (by decide) (fun c_240 => ?_) (fun c_240 => absurd (by decide) c_240)
      refine x_iinc (lv2 := [(10, .int 1), (9, .int 0), (8, .int 0), (7, .int (nI fm)), (5, .long p), (3, .int (nI (s_tn s))), (0, .ref 36), (1, .int (nI k))]) dX12_journey_286 0 rfl (by decide) (by decide) rfl ?_
      refine x_goto (tgt := 232) dX12_journey_289 (by decide) ?_
      refine x_iload dX12_journey_232 0 rfl ?_
      refine x_iconst (v := 3) dX12_journey_234 (by decide) ?_
      refine x_icmp_ge (tgt := 292) dX12_journey_235 (by decide) (fun c_235 => absurd c_235 (by decide)) (fun c_235 => ?_)
      refine x_iload dX12_journey_238 2 rfl ?_
      refine x_if_eq (tgt := 286) dX12_journey_240 (by decide) (fun c_240 => ?_) (fun c_240 => absurd (by decide) c_240)
      refine x_iinc (lv2 := [(10, .int 2), (9, .int 0), (8, .int 0), (7, .int (nI fm)), (5, .long p), (3, .int (nI (s_tn s))), (0, .ref 36), (1, .int (nI k))]) dX12_journey_286 0 rfl (by decide) (by decide) rfl ?_
      refine x_goto (tgt := 232) dX12_journey_289 (by decide) ?_
      refine x_iload dX12_journey_232 0 rfl ?_
      refine x_iconst (v := 3) dX12_journey_234 (by decide) ?_
      refine x_icmp_ge (tgt := 292) dX12_journey_235 (by decide) (fun c_235 => absurd c_235 (by decide)) (fun c_235 => ?_)
      refine x_iload dX12_journey_238 2 rfl ?_
      refine x_if_eq (tgt := 286) dX12_journey_240 (by decide) (fun c_240 => ?_) (fun c_240 => absurd (by decide) c_240)
      refine x_iinc (lv2 := [(10, .int 3), (9, .int 0), (8, .int 0), (7, .int (nI fm)), (5, .long p), (3, .int (nI (s_tn s))), (0, .ref 36), (1, .int (nI k))]) dX12_journey_286 0 rfl (by decide) (by decide) rfl ?_
      refine x_goto (tgt := 232) dX12_journey_289 (by decide) ?_
      refine x_iload dX12_journey_232 0 rfl ?_
      refine x_iconst (v := 3) dX12_journey_234 (by decide) ?_
      refine x_icmp_ge (tgt := 292) dX12_journey_235 (by decide) (fun c_235 => ?_) (fun c_235 => absurd (by decide) c_235)
      rw [show (0 : Int32) = nI (hdL (sR s t) k (s_tv s) fm) from by (rw [eH, hdF_0 (fun i => by unfold HO; rw [hpd])]; rfl)]
      refine x_lload dX12_journey_292 4 rfl ?_
      refine x_iload dX12_journey_294 1 rfl ?_
      refine x_i2l dX12_journey_296 ?_
      refine x_lmul dX12_journey_297 ?_
      refine x_aload_n dX12_journey_298 6 rfl ?_
      refine x_get (v := .ref 37) dX12_journey_299 fX12_7 g102 (by decide) rfl ?_
      refine x_iload dX12_journey_302 3 rfl ?_
      refine x_bipush (v := 7) dX12_journey_304 (by decide) ?_
      refine x_iaddN (a := fm) (b := 7) dX12_journey_306 ?_
      refine x_ialdN (i := (fm + 7)) dX12_journey_307 f104 (by decide) (by omega) (by decide) ?_
      rw [r1 (fm + 7) (by omega)]
      refine x_aload_n dX12_journey_308 6 rfl ?_
      refine x_get (v := .ref 37) dX12_journey_309 fX12_7 g102 (by decide) rfl ?_
      refine x_iload dX12_journey_312 3 rfl ?_
      refine x_bipush (v := 8) dX12_journey_314 (by decide) ?_
      refine x_iaddN (a := fm) (b := 8) dX12_journey_316 ?_
      refine x_ialdN (i := (fm + 8)) dX12_journey_317 f104 (by decide) (by omega) (by decide) ?_
      rw [r1 (fm + 8) (by omega)]
      refine x_iaddN (a := (s_tv s (fm + 7))) (b := (s_tv s (fm + 8))) dX12_journey_318 ?_
      refine x_aload_n dX12_journey_319 6 rfl ?_
      refine x_get (v := .ref 37) dX12_journey_320 fX12_7 g102 (by decide) rfl ?_
      refine x_iload dX12_journey_323 3 rfl ?_
      refine x_bipush (v := 9) dX12_journey_325 (by decide) ?_
      refine x_iaddN (a := fm) (b := 9) dX12_journey_327 ?_
      refine x_ialdN (i := (fm + 9)) dX12_journey_328 f104 (by decide) (by omega) (by decide) ?_
      rw [r1 (fm + 9) (by omega)]
      refine x_iaddN (a := ((s_tv s (fm + 7)) + (s_tv s (fm + 8)))) (b := (s_tv s (fm + 9))) dX12_journey_329 ?_
      rw [eS]
      refine x_i2l dX12_journey_330 ?_
      refine x_ldiv dX12_journey_331 (nI_one hsh (by omega)).2 ?_
      refine x_lstore (lv2 := [(5, .long ((p * ((nI (hdL (sR s t) k (s_tv s) fm))).toInt64) / ((nI (jgS (s_tv s) fm))).toInt64)), (10, .int 3), (9, .int (nI (hdL (sR s t) k (s_tv s) fm))), (8, .int (nI (hdL (sR s t) k (s_tv s) fm))), (7, .int (nI fm)), (3, .int (nI (s_tn s))), (0, .ref 36), (1, .int (nI k))]) dX12_journey_332 (by decide) rfl ?_
      refine x_iinc (lv2 := [(7, .int (nI (fm + 10))), (5, .long ((p * ((nI (hdL (sR s t) k (s_tv s) fm))).toInt64) / ((nI (jgS (s_tv s) fm))).toInt64)), (10, .int 3), (9, .int (nI (hdL (sR s t) k (s_tv s) fm))), (8, .int (nI (hdL (sR s t) k (s_tv s) fm))), (3, .int (nI (s_tn s))), (0, .ref 36), (1, .int (nI k))]) dX12_journey_334 4 rfl (nI_add fm 10) (by decide) rfl ?_
      refine x_goto (tgt := 191) dX12_journey_337 (by decide) ?_
      refine x_perm [0, 1, 5, 6, 7] rfl ?_
      refine (ih (fm + 10) _ h101 (by omega) (by omega) hl2 ⟨_, _, _, _, _, _, _, _, _, _, _, _, _, _, _, g102, f104, f105, f106, f107⟩).weaken (fun o ho => ⟨?_, ho.2.1, sm108.tr ho.2.2⟩)
      rw [ho.1, jgP]
    · rw [hp0, show nI (kf + 1) - 1 = nI kf from nI_pred kf] at g102 ⊢
      rw [if_neg (nI_pos (by have := W.2.1; omega))]
      obtain ⟨np, P, U, ke, pr, WF⟩ := W.2.2.2.2.2.2.2.2.1 kf hkf
      have WF := WF.canon
      have w8 := W.2.1
      refine x_istore (lv2 := [(8, .int 1), (7, .int (nI fm)), (5, .long p), (3, .int (nI (s_tn s))), (0, .ref 36), (1, .int (nI k))]) dX12_journey_209 (by decide) rfl ?_
      refine x_iload dX12_journey_211 0 rfl ?_
      refine x_if_eq (tgt := 226) dX12_journey_213 (by decide) (fun c_213 => absurd c_213 (by decide)) (fun c_213 => ?_)
      refine x_aload_n dX12_journey_216 4 rfl ?_
      refine x_aload_n dX12_journey_217 4 rfl ?_
      refine x_get (v := .int (nI kf)) dX12_journey_218 fX12_239 g102 (by decide) rfl ?_
      refine x_bipush (v := 100) dX12_journey_221 (by decide) ?_
      refine x_callV (rf' := 1) (rl' := 21) [.int (nI kf), .int 100] [] dX12_journey_223 vX12_226 Y_X12_lay g102 (by decide) rfl rfl (Nat.le_of_ble_eq_true rfl) (Nat.le_of_ble_eq_true rfl) (by decide) (by decide) (c_layM (k := k) (sd := sd) g102 f105 f106 f107 RH WF (by omega)) (fun r h109 e113 => ?_)
      obtain ⟨e0, L112, g110, sm111⟩ := e113
      cases e0
      have f114 := sm111.at f104 (by decide)
      have f115 := sm111.at f105 (by decide)
      have sm116 := sm108.tr (sm111)
      obtain ⟨cv117, sv118, g119, g120, -⟩ := id L112
      refine x_iconst (v := 0) dX12_journey_226 (by decide) ?_
      refine x_istore (lv2 := [(9, .int 0), (8, .int 1), (7, .int (nI fm)), (5, .long p), (3, .int (nI (s_tn s))), (0, .ref 36), (1, .int (nI k))]) dX12_journey_227 (by decide) rfl ?_
      refine x_iconst (v := 0) dX12_journey_229 (by decide) ?_
      refine x_istore (lv2 := [(10, .int 0), (9, .int 0), (8, .int 1), (7, .int (nI fm)), (5, .long p), (3, .int (nI (s_tn s))), (0, .ref 36), (1, .int (nI k))]) dX12_journey_230 (by decide) rfl ?_
      refine x_perm [0, 1, 2, 3, 4, 5, 6, 7] rfl ?_
      refine lm_jgHeld W hk RH hw9 r1 htn htv hsd WF hpd L112 g110 f114 f115 (by omega) 3 0 0 rfl (by omega) (by omega) ?_
      rw [Nat.zero_add, ← eH]
      refine x_lload dX12_journey_292 3 rfl ?_
      refine x_iload dX12_journey_294 0 rfl ?_
      refine x_i2l dX12_journey_296 ?_
      refine x_lmul dX12_journey_297 ?_
      refine x_aload_n dX12_journey_298 5 rfl ?_
      refine x_get (v := .ref 37) dX12_journey_299 fX12_7 g110 (by decide) rfl ?_
      refine x_iload dX12_journey_302 2 rfl ?_
      refine x_bipush (v := 7) dX12_journey_304 (by decide) ?_
      refine x_iaddN (a := fm) (b := 7) dX12_journey_306 ?_
      refine x_ialdN (i := (fm + 7)) dX12_journey_307 f114 (by decide) (by omega) (by decide) ?_
      rw [r1 (fm + 7) (by omega)]
      refine x_aload_n dX12_journey_308 5 rfl ?_
      refine x_get (v := .ref 37) dX12_journey_309 fX12_7 g110 (by decide) rfl ?_
      refine x_iload dX12_journey_312 2 rfl ?_
      refine x_bipush (v := 8) dX12_journey_314 (by decide) ?_
      refine x_iaddN (a := fm) (b := 8) dX12_journey_316 ?_
      refine x_ialdN (i := (fm + 8)) dX12_journey_317 f114 (by decide) (by omega) (by decide) ?_
      rw [r1 (fm + 8) (by omega)]
      refine x_iaddN (a := (s_tv s (fm + 7))) (b := (s_tv s (fm + 8))) dX12_journey_318 ?_
      refine x_aload_n dX12_journey_319 5 rfl ?_
      refine x_get (v := .ref 37) dX12_journey_320 fX12_7 g110 (by decide) rfl ?_
      refine x_iload dX12_journey_323 2 rfl ?_
      refine x_bipush (v := 9) dX12_journey_325 (by decide) ?_
      refine x_iaddN (a := fm) (b := 9) dX12_journey_327 ?_
      refine x_ialdN (i := (fm + 9)) dX12_journey_328 f114 (by decide) (by omega) (by decide) ?_
      rw [r1 (fm + 9) (by omega)]
      refine x_iaddN (a := ((s_tv s (fm + 7)) + (s_tv s (fm + 8)))) (b := (s_tv s (fm + 9))) dX12_journey_329 ?_
      rw [eS]
      refine x_i2l dX12_journey_330 ?_
      refine x_ldiv dX12_journey_331 (nI_one hsh (by omega)).2 ?_
      refine x_lstore (lv2 := [(5, .long ((p * ((nI (hdL (sR s t) k (s_tv s) fm))).toInt64) / ((nI (jgS (s_tv s) fm))).toInt64)), (9, .int (nI (hdL (sR s t) k (s_tv s) fm))), (8, .int 1), (7, .int (nI fm)), (3, .int (nI (s_tn s))), (0, .ref 36), (1, .int (nI k))]) dX12_journey_332 (by decide) rfl ?_
      refine x_iinc (lv2 := [(7, .int (nI (fm + 10))), (5, .long ((p * ((nI (hdL (sR s t) k (s_tv s) fm))).toInt64) / ((nI (jgS (s_tv s) fm))).toInt64)), (9, .int (nI (hdL (sR s t) k (s_tv s) fm))), (8, .int 1), (3, .int (nI (s_tn s))), (0, .ref 36), (1, .int (nI k))]) dX12_journey_334 3 rfl (nI_add fm 10) (by decide) rfl ?_
      refine x_goto (tgt := 191) dX12_journey_337 (by decide) ?_
      refine x_perm [0, 1, 4, 5, 6] rfl ?_
      refine (ih (fm + 10) _ h109 (by omega) (by omega) hl2 ⟨_, _, _, _, _, _, _, _, _, _, _, _, _, _, _, g110, f114, f115, g119, g120⟩).weaken (fun o ho => ⟨?_, ho.2.1, sm116.tr ho.2.2⟩)
      rw [ho.1, jgP]

noncomputable def spJr (rec : Nat → Int32) (c : Nat × Nat × Nat × Nat) (th : Int32) (tn : Nat) (tv : Nat → Nat) : Int64 := if bT c th ∨ ¬ jgOk tn tv then 0 else jgP rec th.toNatClampNeg tv (tn / 10) 0 1000000000000000

set_option maxRecDepth 100000 in
set_option maxHeartbeats 4000000 in
theorem m_journeyN {G : GT} {h : List PE} {s : ST} {t : Int32} {th : Int32} (hM : MoR h s) (hW : WS s) (hs : bT (sC s t) th) : CT G mX12_journey 3 65 [.ref 36, .int th, .int t] h (fun o => o.1 = some (.long (spJr (sR s t) (sC s t) th (s_tn s) (s_tv s))) ∧ MoR o.2 s ∧ (∃ fs, o.2[36]? = some (cO 12 (.int 1 :: fs))) ∧ Sm [36, 41, 42] h o.2) := by
  obtain ⟨thr, siz, too, frm, knd, num, sgn, plc, wrd, tld, now, lst, pfo, thk, are, ipd, mt, bk, dy, nm, cv, sv, k1, k2, k3, k4, k5, k6, k7, f36, f37, f38, f39, f40, f41, f42, f43, f44, f45, f46, f47, f48, f49, r1, r2, r3⟩ := hM
  have W := hW.cur t
  have hm : MB (s_n s) dy bk (s_dy s) (s_rc s) := ⟨hW.1, r2⟩
  have htn := hW.2.2.1
  have htv := hW.2.2.2.1
  have sm0 : Sm [36, 41, 42] h h := Sm.rf
  show X (NF G) G mX12_journey 3 65 0 [(0, .ref 36), (1, .int th), (2, .int t)] [] h _
  refine x_aload_n dX12_journey_0 0 rfl ?_
  refine x_get (v := .int (nI (s_tn s))) dX12_journey_1 fX12_58 f36 (by decide) rfl ?_
  refine x_istore_n (lv2 := [(3, .int (nI (s_tn s))), (0, .ref 36), (1, .int th), (2, .int t)]) dX12_journey_4 (by decide) rfl ?_
  refine x_aload_n dX12_journey_5 1 rfl ?_
  refine x_iconst (v := 1) dX12_journey_6 (by decide) ?_
  refine x_iload_n dX12_journey_7 2 rfl ?_
  refine x_iload_n dX12_journey_8 3 rfl ?_
  refine x_callV (rf' := 2) (rl' := 42) [.int 1, .int th, .int t] [] dX12_journey_9 vX12_223 Y_X12_has f36 (by decide) rfl rfl (Nat.le_of_ble_eq_true rfl) (Nat.le_of_ble_eq_true rfl) (by decide) (by decide) (c_has (q := 1) f36 f38 f39 hm W (by decide)) (fun r h101 e1 => ?_)
  obtain ⟨e0, g102, sm103⟩ := e1
  cases e0
  rw [show cQ (curC (s_n s) (s_dy s) (s_ct s) t) 1 = (sC s t).2.1 from rfl, if_pos hs]
  have f104 := sm103.at f37 (by decide)
  have f105 := sm103.at f38 (by decide)
  have f106 := sm103.at f39 (by decide)
  have f107 := sm103.at f41 (by decide)
  have f108 := sm103.at f42 (by decide)
  have sm109 := sm0.tr (sm103.wide (by decide))
  refine x_if_eq (tgt := 39) dX12_journey_12 (by decide) (fun c_12 => ?_) (fun c_12 => absurd (by decide) c_12)
  refine x_iconst (v := 0) dX12_journey_39 (by decide) ?_
  refine x_istore (lv2 := [(4, .int 0), (3, .int (nI (s_tn s))), (0, .ref 36), (1, .int th), (2, .int t)]) dX12_journey_40 (by decide) rfl ?_
  refine x_iconst (v := 0) dX12_journey_42 (by decide) ?_
  refine x_istore (lv2 := [(5, .int 0), (4, .int 0), (3, .int (nI (s_tn s))), (0, .ref 36), (1, .int th), (2, .int t)]) dX12_journey_43 (by decide) rfl ?_
  refine x_perm [1, 0, 2, 3, 4] rfl ?_
  refine lm_jg0 (fm := 0) htn (by omega) ?_
  refine x_aload_n dX12_journey_157 2 rfl ?_
  refine x_iload dX12_journey_158 0 rfl ?_
  refine x_if_eq (tgt := 167) dX12_journey_160 (by decide) (fun c_160 => ?_) (fun c_160 => absurd (by decide) c_160)
  refine x_iconst (v := 1) dX12_journey_167 (by decide) ?_
  refine x_put (fs2 := (MO 1 ((nI (s_tn s))) ((nI (s_td s))) ((nI (s_n s))) siz too frm knd num sgn ((s_fl s)) plc wrd tld ((nowOf (lastB (s_dy s) t (s_n s)))) lst pfo thk are ((s_br s)) ipd ((s_bs s)))) dX12_journey_168 fX12_55 (Or.inl rfl) g102 (by decide) rfl rfl (Nat.le_of_ble_eq_true rfl) rfl (fun h110 a111 e112 l113 s114 => ?_)
  have f115 := (e112 37 (by decide)).trans f104
  have f116 := (e112 38 (by decide)).trans f105
  have f117 := (e112 39 (by decide)).trans f106
  have f118 := (e112 41 (by decide)).trans f107
  have f119 := (e112 42 (by decide)).trans f108
  have sm120 := Sm.put sm109 e112 l113 s114 (by decide)
  refine x_iload dX12_journey_171 0 rfl ?_
  refine x_if_ne (tgt := 178) dX12_journey_173 (by decide) (fun c_173 => absurd (by decide) c_173) (fun c_173 => ?_)
  refine x_lconst (v := 0) dX12_journey_176 (by decide) ?_
  exact x_lret dX12_journey_177 rfl ⟨by rw [spJr, if_pos (Or.inl hs)], (moR (s := s) a111 f115 f116 f117 (sm120.at f40 (by decide)) f118 f119 (sm120.at f43 (by decide)) (sm120.at f44 (by decide)) (sm120.at f45 (by decide)) (sm120.at f46 (by decide)) (sm120.at f47 (by decide)) (sm120.at f48 (by decide)) (sm120.at f49 (by decide)) r1 r2 r3), ⟨_, a111⟩, sm120⟩

set_option maxRecDepth 100000 in
set_option maxHeartbeats 4000000 in
theorem m_journeyB {G : GT} {h : List PE} {s : ST} {t : Int32} {k : Nat} (hM : MoR h s) (hW : WS s) (hk : k < (sC s t).2.1) (hj : ¬ jgOk (s_tn s) (s_tv s)) : CT G mX12_journey 3 65 [.ref 36, .int (nI k), .int t] h (fun o => o.1 = some (.long (spJr (sR s t) (sC s t) (nI k) (s_tn s) (s_tv s))) ∧ MoR o.2 s ∧ (∃ fs, o.2[36]? = some (cO 12 (.int 1 :: fs))) ∧ Sm [36, 41, 42] h o.2) := by
  obtain ⟨thr, siz, too, frm, knd, num, sgn, plc, wrd, tld, now, lst, pfo, thk, are, ipd, mt, bk, dy, nm, cv, sv, k1, k2, k3, k4, k5, k6, k7, f36, f37, f38, f39, f40, f41, f42, f43, f44, f45, f46, f47, f48, f49, r1, r2, r3⟩ := hM
  have W := hW.cur t
  have hm : MB (s_n s) dy bk (s_dy s) (s_rc s) := ⟨hW.1, r2⟩
  have htn := hW.2.2.1
  have htv := hW.2.2.2.1
  have sm0 : Sm [36, 41, 42] h h := Sm.rf
  have w4 := W.2.2.2.1
  obtain ⟨b, hlb⟩ := curC_some (n := s_n s) (sdy := s_dy s) (ct := s_ct s) (t := t) hk
  have RH : 484 * b + 484 ≤ 10164 ∧ ∀ j, j < 484 → bk (484 * b + j) = sR s t j := hm.rh hlb
  obtain ⟨⟨wn, hw, hw1, hw2⟩, -⟩ := W.2.2.2.2.2.2.2.2.2.1 k hk
  have hw9 := nI_one hw1 (show wn < 2 ^ 31 by omega)
  rw [← hw] at hw9
  have nb1 : ¬ bT (sC s t) (nI k) := fun q => q.elim (nI_pos (by omega)) (fun q => absurd ((nI_leI (by omega) (by omega)).mp q) (by omega))
  have nb := nb1
  show X (NF G) G mX12_journey 3 65 0 [(0, .ref 36), (1, .int (nI k)), (2, .int t)] [] h _
  refine x_aload_n dX12_journey_0 0 rfl ?_
  refine x_get (v := .int (nI (s_tn s))) dX12_journey_1 fX12_58 f36 (by decide) rfl ?_
  refine x_istore_n (lv2 := [(3, .int (nI (s_tn s))), (0, .ref 36), (1, .int (nI k)), (2, .int t)]) dX12_journey_4 (by decide) rfl ?_
  refine x_aload_n dX12_journey_5 1 rfl ?_
  refine x_iconst (v := 1) dX12_journey_6 (by decide) ?_
  refine x_iload_n dX12_journey_7 2 rfl ?_
  refine x_iload_n dX12_journey_8 3 rfl ?_
  refine x_callV (rf' := 2) (rl' := 42) [.int 1, .int (nI k), .int t] [] dX12_journey_9 vX12_223 Y_X12_has f36 (by decide) rfl rfl (Nat.le_of_ble_eq_true rfl) (Nat.le_of_ble_eq_true rfl) (by decide) (by decide) (c_has (q := 1) f36 f38 f39 hm W (by decide)) (fun r h101 e1 => ?_)
  obtain ⟨e0, g102, sm103⟩ := e1
  cases e0
  rw [show cQ (curC (s_n s) (s_dy s) (s_ct s) t) 1 = (sC s t).2.1 from rfl, if_neg nb]
  rw [hlb] at g102
  have g102 : h101[36]? = some (cO 12 (MO thr ((nI (s_tn s))) ((nI (s_td s))) ((nI (s_n s))) siz too frm knd num sgn ((s_fl s)) plc wrd tld ((nI (484 * b))) lst pfo thk are ((s_br s)) ipd ((s_bs s)))) := g102
  have f104 := sm103.at f37 (by decide)
  have f105 := sm103.at f38 (by decide)
  have f106 := sm103.at f39 (by decide)
  have f107 := sm103.at f41 (by decide)
  have f108 := sm103.at f42 (by decide)
  have sm109 := sm0.tr (sm103.wide (by decide))
  refine x_if_eq (tgt := 39) dX12_journey_12 (by decide) (fun c_12 => absurd c_12 (by decide)) (fun c_12 => ?_)
  refine x_iload_n dX12_journey_15 0 rfl ?_
  refine x_bipush (v := 10) dX12_journey_16 (by decide) ?_
  refine x_iremN (a := (s_tn s)) (b := 10) (by omega) (by omega) (by omega) dX12_journey_18 ?_
  refine x_if_neN (tgt := 39) (a := ((s_tn s) % 10)) (by omega) dX12_journey_19 (by decide) (fun c_19 => ?_) (fun c_19 => ?_)
  · refine x_iconst (v := 0) dX12_journey_39 (by decide) ?_
    refine x_istore (lv2 := [(4, .int 0), (3, .int (nI (s_tn s))), (0, .ref 36), (1, .int (nI k)), (2, .int t)]) dX12_journey_40 (by decide) rfl ?_
    refine x_iconst (v := 0) dX12_journey_42 (by decide) ?_
    refine x_istore (lv2 := [(5, .int 0), (4, .int 0), (3, .int (nI (s_tn s))), (0, .ref 36), (1, .int (nI k)), (2, .int t)]) dX12_journey_43 (by decide) rfl ?_
    refine x_perm [1, 0, 2, 3, 4] rfl ?_
    refine lm_jg0 (fm := 0) htn (by omega) ?_
    refine x_aload_n dX12_journey_157 2 rfl ?_
    refine x_iload dX12_journey_158 0 rfl ?_
    refine x_if_eq (tgt := 167) dX12_journey_160 (by decide) (fun c_160 => ?_) (fun c_160 => absurd (by decide) c_160)
    refine x_iconst (v := 1) dX12_journey_167 (by decide) ?_
    refine x_put (fs2 := (MO 1 ((nI (s_tn s))) ((nI (s_td s))) ((nI (s_n s))) siz too frm knd num sgn ((s_fl s)) plc wrd tld ((nI (484 * b))) lst pfo thk are ((s_br s)) ipd ((s_bs s)))) dX12_journey_168 fX12_55 (Or.inl rfl) g102 (by decide) rfl rfl (Nat.le_of_ble_eq_true rfl) rfl (fun h110 a111 e112 l113 s114 => ?_)
    have f115 := (e112 37 (by decide)).trans f104
    have f116 := (e112 38 (by decide)).trans f105
    have f117 := (e112 39 (by decide)).trans f106
    have f118 := (e112 41 (by decide)).trans f107
    have f119 := (e112 42 (by decide)).trans f108
    have sm120 := Sm.put sm109 e112 l113 s114 (by decide)
    refine x_iload dX12_journey_171 0 rfl ?_
    refine x_if_ne (tgt := 178) dX12_journey_173 (by decide) (fun c_173 => absurd (by decide) c_173) (fun c_173 => ?_)
    refine x_lconst (v := 0) dX12_journey_176 (by decide) ?_
    exact x_lret dX12_journey_177 rfl ⟨by rw [spJr, if_pos (Or.inr hj)], (moR (s := s) a111 f115 f116 f117 (sm120.at f40 (by decide)) f118 f119 (sm120.at f43 (by decide)) (sm120.at f44 (by decide)) (sm120.at f45 (by decide)) (sm120.at f46 (by decide)) (sm120.at f47 (by decide)) (sm120.at f48 (by decide)) (sm120.at f49 (by decide)) r1 r2 r3), ⟨_, a111⟩, sm120⟩
  · refine x_iload_n dX12_journey_22 0 rfl ?_
    refine x_bipush (v := 10) dX12_journey_23 (by decide) ?_
    refine x_idivN (a := (s_tn s)) (b := 10) (by omega) (by omega) (by omega) dX12_journey_25 ?_
    refine x_iconst (v := 1) dX12_journey_26 (by decide) ?_
    refine x_bipush (v := 40) dX12_journey_27 (by decide) ?_
    refine x_callS (rf' := 0) (rl' := 0) [.int (nI ((s_tn s) / 10)), .int 1, .int 40] [] dX12_journey_29 vX12_65 Y_X12_isIn rfl rfl (Nat.le_of_ble_eq_true rfl) (Nat.le_of_ble_eq_true rfl) (by decide) (by decide) c_isIn (fun _ _ e121 => ?_)
    cases e121
    by_cases hq : 1 ≤ s_tn s / 10 ∧ s_tn s / 10 ≤ 40
    · rw [if_neg (fun q => q.elim (fun q => absurd ((nI_ltI (b := 1) (by omega) (by decide)).mp q) (by omega)) (fun q => absurd ((nI_ltI (a := 40) (by decide) (by omega)).mp q) (by omega)))]
      refine x_if_eq (tgt := 39) dX12_journey_32 (by decide) (fun c_32 => absurd c_32 (by decide)) (fun c_32 => ?_)
      refine x_iconst (v := 1) dX12_journey_35 (by decide) ?_
      refine x_goto (tgt := 40) dX12_journey_36 (by decide) ?_
      refine x_istore (lv2 := [(4, .int 1), (3, .int (nI (s_tn s))), (0, .ref 36), (1, .int (nI k)), (2, .int t)]) dX12_journey_40 (by decide) rfl ?_
      refine x_iconst (v := 0) dX12_journey_42 (by decide) ?_
      refine x_istore (lv2 := [(5, .int 0), (4, .int 1), (3, .int (nI (s_tn s))), (0, .ref 36), (1, .int (nI k)), (2, .int t)]) dX12_journey_43 (by decide) rfl ?_
      refine x_perm [1, 0, 2, 3, 4] rfl ?_
      refine lm_jgOut g102 f104 r1 htn htv (by omega) (s_tn s / 10) 0 (by omega) (by omega) (fun hl => ?_) (fun hl => ?_)
      · refine x_aload_n dX12_journey_157 2 rfl ?_
        refine x_iload dX12_journey_158 0 rfl ?_
        refine x_if_eq (tgt := 167) dX12_journey_160 (by decide) (fun c_160 => absurd c_160 (by decide)) (fun c_160 => ?_)
        refine x_iconst (v := 0) dX12_journey_163 (by decide) ?_
        refine x_goto (tgt := 168) dX12_journey_164 (by decide) ?_
        refine x_put (fs2 := (MO 0 ((nI (s_tn s))) ((nI (s_td s))) ((nI (s_n s))) siz too frm knd num sgn ((s_fl s)) plc wrd tld ((nI (484 * b))) lst pfo thk are ((s_br s)) ipd ((s_bs s)))) dX12_journey_168 fX12_55 (Or.inl rfl) g102 (by decide) rfl rfl (Nat.le_of_ble_eq_true rfl) rfl (fun h122 a123 e124 l125 s126 => ?_)
        have f127 := (e124 37 (by decide)).trans f104
        have f128 := (e124 38 (by decide)).trans f105
        have f129 := (e124 39 (by decide)).trans f106
        have f130 := (e124 41 (by decide)).trans f107
        have f131 := (e124 42 (by decide)).trans f108
        have sm132 := Sm.put sm109 e124 l125 s126 (by decide)
        refine x_iload dX12_journey_171 0 rfl ?_
        refine x_if_ne (tgt := 178) dX12_journey_173 (by decide) (fun c_173 => ?_) (fun c_173 => absurd c_173 (by decide))
        exact absurd ⟨by omega, by omega, by omega, hl⟩ hj
      · refine x_aload_n dX12_journey_157 2 rfl ?_
        refine x_iload dX12_journey_158 0 rfl ?_
        refine x_if_eq (tgt := 167) dX12_journey_160 (by decide) (fun c_160 => ?_) (fun c_160 => absurd (by decide) c_160)
        refine x_iconst (v := 1) dX12_journey_167 (by decide) ?_
        refine x_put (fs2 := (MO 1 ((nI (s_tn s))) ((nI (s_td s))) ((nI (s_n s))) siz too frm knd num sgn ((s_fl s)) plc wrd tld ((nI (484 * b))) lst pfo thk are ((s_br s)) ipd ((s_bs s)))) dX12_journey_168 fX12_55 (Or.inl rfl) g102 (by decide) rfl rfl (Nat.le_of_ble_eq_true rfl) rfl (fun h133 a134 e135 l136 s137 => ?_)
        have f138 := (e135 37 (by decide)).trans f104
        have f139 := (e135 38 (by decide)).trans f105
        have f140 := (e135 39 (by decide)).trans f106
        have f141 := (e135 41 (by decide)).trans f107
        have f142 := (e135 42 (by decide)).trans f108
        have sm143 := Sm.put sm109 e135 l136 s137 (by decide)
        refine x_iload dX12_journey_171 0 rfl ?_
        refine x_if_ne (tgt := 178) dX12_journey_173 (by decide) (fun c_173 => absurd (by decide) c_173) (fun c_173 => ?_)
        refine x_lconst (v := 0) dX12_journey_176 (by decide) ?_
        exact x_lret dX12_journey_177 rfl ⟨by rw [spJr, if_pos (Or.inr hj)], (moR (s := s) a134 f138 f139 f140 (sm143.at f40 (by decide)) f141 f142 (sm143.at f43 (by decide)) (sm143.at f44 (by decide)) (sm143.at f45 (by decide)) (sm143.at f46 (by decide)) (sm143.at f47 (by decide)) (sm143.at f48 (by decide)) (sm143.at f49 (by decide)) r1 r2 r3), ⟨_, a134⟩, sm143⟩
    · rw [if_pos (show nI (s_tn s / 10) < 1 ∨ (40 : Int32) < nI (s_tn s / 10) from (Classical.em (1 ≤ s_tn s / 10)).elim (fun z => Or.inr ((nI_ltI (a := 40) (by decide) (by omega)).mpr (by omega))) (fun z => Or.inl ((nI_ltI (b := 1) (by omega) (by decide)).mpr (by omega))))]
      refine x_if_eq (tgt := 39) dX12_journey_32 (by decide) (fun c_32 => ?_) (fun c_32 => absurd (by decide) c_32)
      refine x_iconst (v := 0) dX12_journey_39 (by decide) ?_
      refine x_istore (lv2 := [(4, .int 0), (3, .int (nI (s_tn s))), (0, .ref 36), (1, .int (nI k)), (2, .int t)]) dX12_journey_40 (by decide) rfl ?_
      refine x_iconst (v := 0) dX12_journey_42 (by decide) ?_
      refine x_istore (lv2 := [(5, .int 0), (4, .int 0), (3, .int (nI (s_tn s))), (0, .ref 36), (1, .int (nI k)), (2, .int t)]) dX12_journey_43 (by decide) rfl ?_
      refine x_perm [1, 0, 2, 3, 4] rfl ?_
      refine lm_jg0 (fm := 0) htn (by omega) ?_
      refine x_aload_n dX12_journey_157 2 rfl ?_
      refine x_iload dX12_journey_158 0 rfl ?_
      refine x_if_eq (tgt := 167) dX12_journey_160 (by decide) (fun c_160 => ?_) (fun c_160 => absurd (by decide) c_160)
      refine x_iconst (v := 1) dX12_journey_167 (by decide) ?_
      refine x_put (fs2 := (MO 1 ((nI (s_tn s))) ((nI (s_td s))) ((nI (s_n s))) siz too frm knd num sgn ((s_fl s)) plc wrd tld ((nI (484 * b))) lst pfo thk are ((s_br s)) ipd ((s_bs s)))) dX12_journey_168 fX12_55 (Or.inl rfl) g102 (by decide) rfl rfl (Nat.le_of_ble_eq_true rfl) rfl (fun h144 a145 e146 l147 s148 => ?_)
      have f149 := (e146 37 (by decide)).trans f104
      have f150 := (e146 38 (by decide)).trans f105
      have f151 := (e146 39 (by decide)).trans f106
      have f152 := (e146 41 (by decide)).trans f107
      have f153 := (e146 42 (by decide)).trans f108
      have sm154 := Sm.put sm109 e146 l147 s148 (by decide)
      refine x_iload dX12_journey_171 0 rfl ?_
      refine x_if_ne (tgt := 178) dX12_journey_173 (by decide) (fun c_173 => absurd (by decide) c_173) (fun c_173 => ?_)
      refine x_lconst (v := 0) dX12_journey_176 (by decide) ?_
      exact x_lret dX12_journey_177 rfl ⟨by rw [spJr, if_pos (Or.inr hj)], (moR (s := s) a145 f149 f150 f151 (sm154.at f40 (by decide)) f152 f153 (sm154.at f43 (by decide)) (sm154.at f44 (by decide)) (sm154.at f45 (by decide)) (sm154.at f46 (by decide)) (sm154.at f47 (by decide)) (sm154.at f48 (by decide)) (sm154.at f49 (by decide)) r1 r2 r3), ⟨_, a145⟩, sm154⟩

set_option maxRecDepth 100000 in
set_option maxHeartbeats 4000000 in
theorem m_journeyS {G : GT} {h : List PE} {s : ST} {t : Int32} {k : Nat} (hM : MoR h s) (hW : WS s) (hk : k < (sC s t).2.1) (hj : jgOk (s_tn s) (s_tv s)) : CT G mX12_journey 3 65 [.ref 36, .int (nI k), .int t] h (fun o => o.1 = some (.long (spJr (sR s t) (sC s t) (nI k) (s_tn s) (s_tv s))) ∧ MoR o.2 (s_setTn s 0) ∧ (∃ fs, o.2[36]? = some (cO 12 (.int 0 :: fs))) ∧ Sm [36, 41, 42] h o.2) := by
  obtain ⟨thr, siz, too, frm, knd, num, sgn, plc, wrd, tld, now, lst, pfo, thk, are, ipd, mt, bk, dy, nm, cv, sv, k1, k2, k3, k4, k5, k6, k7, f36, f37, f38, f39, f40, f41, f42, f43, f44, f45, f46, f47, f48, f49, r1, r2, r3⟩ := hM
  have W := hW.cur t
  have hm : MB (s_n s) dy bk (s_dy s) (s_rc s) := ⟨hW.1, r2⟩
  have htn := hW.2.2.1
  have htv := hW.2.2.2.1
  have sm0 : Sm [36, 41, 42] h h := Sm.rf
  have w4 := W.2.2.2.1
  obtain ⟨b, hlb⟩ := curC_some (n := s_n s) (sdy := s_dy s) (ct := s_ct s) (t := t) hk
  have RH : 484 * b + 484 ≤ 10164 ∧ ∀ j, j < 484 → bk (484 * b + j) = sR s t j := hm.rh hlb
  obtain ⟨⟨wn, hw, hw1, hw2⟩, -⟩ := W.2.2.2.2.2.2.2.2.2.1 k hk
  have hw9 := nI_one hw1 (show wn < 2 ^ 31 by omega)
  rw [← hw] at hw9
  have nb1 : ¬ bT (sC s t) (nI k) := fun q => q.elim (nI_pos (by omega)) (fun q => absurd ((nI_leI (by omega) (by omega)).mp q) (by omega))
  have nb := nb1
  have j1 := hj.1
  have j2 := hj.2.1
  have j3 := hj.2.2.1
  show X (NF G) G mX12_journey 3 65 0 [(0, .ref 36), (1, .int (nI k)), (2, .int t)] [] h _
  refine x_aload_n dX12_journey_0 0 rfl ?_
  refine x_get (v := .int (nI (s_tn s))) dX12_journey_1 fX12_58 f36 (by decide) rfl ?_
  refine x_istore_n (lv2 := [(3, .int (nI (s_tn s))), (0, .ref 36), (1, .int (nI k)), (2, .int t)]) dX12_journey_4 (by decide) rfl ?_
  refine x_aload_n dX12_journey_5 1 rfl ?_
  refine x_iconst (v := 1) dX12_journey_6 (by decide) ?_
  refine x_iload_n dX12_journey_7 2 rfl ?_
  refine x_iload_n dX12_journey_8 3 rfl ?_
  refine x_callV (rf' := 2) (rl' := 42) [.int 1, .int (nI k), .int t] [] dX12_journey_9 vX12_223 Y_X12_has f36 (by decide) rfl rfl (Nat.le_of_ble_eq_true rfl) (Nat.le_of_ble_eq_true rfl) (by decide) (by decide) (c_has (q := 1) f36 f38 f39 hm W (by decide)) (fun r h101 e1 => ?_)
  obtain ⟨e0, g102, sm103⟩ := e1
  cases e0
  rw [show cQ (curC (s_n s) (s_dy s) (s_ct s) t) 1 = (sC s t).2.1 from rfl, if_neg nb]
  rw [hlb] at g102
  have g102 : h101[36]? = some (cO 12 (MO thr ((nI (s_tn s))) ((nI (s_td s))) ((nI (s_n s))) siz too frm knd num sgn ((s_fl s)) plc wrd tld ((nI (484 * b))) lst pfo thk are ((s_br s)) ipd ((s_bs s)))) := g102
  have f104 := sm103.at f37 (by decide)
  have f105 := sm103.at f38 (by decide)
  have f106 := sm103.at f39 (by decide)
  have f107 := sm103.at f41 (by decide)
  have f108 := sm103.at f42 (by decide)
  have sm109 := sm0.tr (sm103.wide (by decide))
  refine x_if_eq (tgt := 39) dX12_journey_12 (by decide) (fun c_12 => absurd c_12 (by decide)) (fun c_12 => ?_)
  refine x_iload_n dX12_journey_15 0 rfl ?_
  refine x_bipush (v := 10) dX12_journey_16 (by decide) ?_
  refine x_iremN (a := (s_tn s)) (b := 10) (by omega) (by omega) (by omega) dX12_journey_18 ?_
  refine x_if_neN (tgt := 39) (a := ((s_tn s) % 10)) (by omega) dX12_journey_19 (by decide) (fun c_19 => absurd (by omega) c_19) (fun c_19 => ?_)
  refine x_iload_n dX12_journey_22 0 rfl ?_
  refine x_bipush (v := 10) dX12_journey_23 (by decide) ?_
  refine x_idivN (a := (s_tn s)) (b := 10) (by omega) (by omega) (by omega) dX12_journey_25 ?_
  refine x_iconst (v := 1) dX12_journey_26 (by decide) ?_
  refine x_bipush (v := 40) dX12_journey_27 (by decide) ?_
  refine x_callS (rf' := 0) (rl' := 0) [.int (nI ((s_tn s) / 10)), .int 1, .int 40] [] dX12_journey_29 vX12_65 Y_X12_isIn rfl rfl (Nat.le_of_ble_eq_true rfl) (Nat.le_of_ble_eq_true rfl) (by decide) (by decide) c_isIn (fun _ _ e110 => ?_)
  cases e110
  rw [if_neg (fun q => q.elim (fun q => absurd ((nI_ltI (b := 1) (by omega) (by decide)).mp q) (by omega)) (fun q => absurd ((nI_ltI (a := 40) (by decide) (by omega)).mp q) (by omega)))]
  refine x_if_eq (tgt := 39) dX12_journey_32 (by decide) (fun c_32 => absurd c_32 (by decide)) (fun c_32 => ?_)
  refine x_iconst (v := 1) dX12_journey_35 (by decide) ?_
  refine x_goto (tgt := 40) dX12_journey_36 (by decide) ?_
  refine x_istore (lv2 := [(4, .int 1), (3, .int (nI (s_tn s))), (0, .ref 36), (1, .int (nI k)), (2, .int t)]) dX12_journey_40 (by decide) rfl ?_
  refine x_iconst (v := 0) dX12_journey_42 (by decide) ?_
  refine x_istore (lv2 := [(5, .int 0), (4, .int 1), (3, .int (nI (s_tn s))), (0, .ref 36), (1, .int (nI k)), (2, .int t)]) dX12_journey_43 (by decide) rfl ?_
  refine x_perm [1, 0, 2, 3, 4] rfl ?_
  refine lm_jgOut g102 f104 r1 htn htv (by omega) (s_tn s / 10) 0 (by omega) (by omega) (fun hl => ?_) (fun hl => by rw [hj.2.2.2] at hl; cases hl)
  refine x_aload_n dX12_journey_157 2 rfl ?_
  refine x_iload dX12_journey_158 0 rfl ?_
  refine x_if_eq (tgt := 167) dX12_journey_160 (by decide) (fun c_160 => absurd c_160 (by decide)) (fun c_160 => ?_)
  refine x_iconst (v := 0) dX12_journey_163 (by decide) ?_
  refine x_goto (tgt := 168) dX12_journey_164 (by decide) ?_
  refine x_put (fs2 := (MO 0 ((nI (s_tn s))) ((nI (s_td s))) ((nI (s_n s))) siz too frm knd num sgn ((s_fl s)) plc wrd tld ((nI (484 * b))) lst pfo thk are ((s_br s)) ipd ((s_bs s)))) dX12_journey_168 fX12_55 (Or.inl rfl) g102 (by decide) rfl rfl (Nat.le_of_ble_eq_true rfl) rfl (fun h111 a112 e113 l114 s115 => ?_)
  have f116 := (e113 37 (by decide)).trans f104
  have f117 := (e113 38 (by decide)).trans f105
  have f118 := (e113 39 (by decide)).trans f106
  have f119 := (e113 41 (by decide)).trans f107
  have f120 := (e113 42 (by decide)).trans f108
  have sm121 := Sm.put sm109 e113 l114 s115 (by decide)
  refine x_iload dX12_journey_171 0 rfl ?_
  refine x_if_ne (tgt := 178) dX12_journey_173 (by decide) (fun c_173 => ?_) (fun c_173 => absurd c_173 (by decide))
  refine x_aload_n dX12_journey_178 2 rfl ?_
  refine x_iconst (v := 0) dX12_journey_179 (by decide) ?_
  refine x_put (fs2 := (MO 0 0 ((nI (s_td s))) ((nI (s_n s))) siz too frm knd num sgn ((s_fl s)) plc wrd tld ((nI (484 * b))) lst pfo thk are ((s_br s)) ipd ((s_bs s)))) dX12_journey_180 fX12_58 (Or.inl rfl) a112 (by decide) rfl rfl (Nat.le_of_ble_eq_true rfl) rfl (fun h122 a123 e124 l125 s126 => ?_)
  have f127 := (e124 37 (by decide)).trans f116
  have f128 := (e124 38 (by decide)).trans f117
  have f129 := (e124 39 (by decide)).trans f118
  have f130 := (e124 41 (by decide)).trans f119
  have f131 := (e124 42 (by decide)).trans f120
  have sm132 := Sm.put sm121 e124 l125 s126 (by decide)
  refine x_ldc2 (v := 1000000000000000) dX12_journey_183 kX12_302 ?_
  refine x_lstore (lv2 := [(5, .long 1000000000000000), (4, .int 1), (3, .int (nI (s_tn s))), (0, .ref 36), (1, .int (nI k))]) dX12_journey_186 (by decide) rfl ?_
  refine x_iconst (v := 0) dX12_journey_188 (by decide) ?_
  refine x_istore (lv2 := [(7, .int 0), (5, .long 1000000000000000), (4, .int 1), (3, .int (nI (s_tn s))), (0, .ref 36), (1, .int (nI k))]) dX12_journey_189 (by decide) rfl ?_
  refine x_perm [0, 1, 3, 4, 5] rfl ?_
  refine (lm_jgLegs W hk RH hw9.2 r1 htn htv (by omega) (s_tn s / 10) 0 _ h122 (by omega) (by omega) hl ⟨_, _, _, _, _, _, _, _, _, _, _, _, _, _, _, a123, f127, f128, f130, f131⟩).weaken (fun o ho => ?_)
  obtain ⟨o1, ⟨siz2, too2, frm2, knd2, num2, sgn2, plc2, wrd2, tld2, lst2, pfo2, thk2, are2, cv2, sv2, g36, g37, g38, g41, g42⟩, o3⟩ := ho
  have sm9 := sm132.tr o3
  exact ⟨by rw [o1, spJr, if_neg (fun q => q.elim nb1 (fun q => q (⟨by omega, by omega, by omega, hl⟩))), nI_clamp (by omega)], (moR (s := s_setTn s 0) g36 g37 g38 (sm9.at f39 (by decide)) (sm9.at f40 (by decide)) g41 g42 (sm9.at f43 (by decide)) (sm9.at f44 (by decide)) (sm9.at f45 (by decide)) (sm9.at f46 (by decide)) (sm9.at f47 (by decide)) (sm9.at f48 (by decide)) (sm9.at f49 (by decide)) (fun j hj => absurd hj (Nat.not_lt_zero j)) r2 r3), ⟨_, g36⟩, sm9⟩

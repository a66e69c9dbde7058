/-! ===== the law: its cases: append, clearText, errorPosition, load, about, setting, bin ===== -/
section C75
variable {E : xEnv} {l : Launch} {Q : xQ} {n o m u j c s T B : Nat} {K : xKnd} {G : xRef} {M : xMem} {L : xLng} {S : xSp}
theorem L_c_append (hl9 : l.stackTraces = false) (hx : rX n K G o) (hm : rM n K G m) (hu : xIs n K u 11 1) (s1 : o + 288 < m) (s2 : m + 7 < u) (hi : LI M L o m S T B) (t1 : 10000 ≤ T) (t2 : T ≤ 240000) (b1 : 21600000 ≤ B) (b2 : B ≤ 200000000) (hcc : c + 1 ≤ 601024) (hss : s + 6 ≤ 7293034) (hj : 4 * j + 4 ≤ E.2.2.2.1) (hN : E.2.2.2.1 ≤ 2048)
    (next : ∀ M' L' S' o5 o6 o7, LI M' L' o m S' (T + 99) (B + 216000) → V E l Y_L_law Q (false, n, K, G, M', L') (c + 1, s + 6) 1720 [some (.ref 2), some (.ref o), some (.ref m), some (.ref u), some (.int (nI (4 * j))), o5, o6, o7] []) (o5 o6 o7 : Option Value) :
    V E l Y_L_law Q (false, n, K, G, M, L) (c, s) 164 [some (.ref 2), some (.ref o), some (.ref m), some (.ref u), some (.int (nI (4 * j))), o5, o6, o7] [] := by
  obtain ⟨hc, hr, hw⟩ := hi
  have hx0 := hx.1
  have hm0 := hm.1
  refine V_ald1 dL_law_164 ?_
  refine V_ald0 dL_law_165 ?_
  refine V_ild4 dL_law_166 ?_
  refine V_iconst (v := 1) dL_law_168 (by decide) ?_
  refine V_iadd dL_law_169 ?_
  refine V_ro2 (j := 4 * j + 1) (nI_add (4 * j) 1) (by omega) (by omega) dL_law_170 ?_
  refine V_ald3 dL_law_171 ?_
  refine V_csH (Y' := Y_L_append) (As := [.ref o, .int (E.2.2.2.2 (4 * j + 1)), .ref u]) (rest := []) ml_L_98 (List.cons_ne_nil _ _) mc_L_append mi_L hn_L_append mt_L_append dL_law_172 (c_L_append hx hu (Or.inr (by omega)) hc _ (c_X5_appendG hl9 hx hc _)) (xFit.mk (by decide) (by decide) hcc hss) (Nat.le_of_ble_eq_true rfl) (fun o9 q9 hq9 => ?_)
  obtain ⟨x9, M1, L1, rfl, rfl, c1, f1, a1, k3⟩ := hq9
  refine V_loose ?_
  have r1 : MRel M1 m S := hr.cong (fun z q1 q2 => (f1 z (by omega) (by omega)).1)
  show V E l _ _ (false, n, K, G, M1, L1) (c + 1, s + 6) 175 _ [.int (nI ((if (E.2.2.2.2 (4 * j + 1)) < 0 ∨ 255 < (E.2.2.2.2 (4 * j + 1)) then 1 else if S.1 < 100 then 0 else 2)))]
  refine V_ist5 dL_law_175 rfl (by decide) ?_
  refine V_ald2 dL_law_177 ?_
  refine V_ald0 dL_law_178 ?_
  refine V_ild4 dL_law_179 ?_
  refine V_iconst (v := 1) dL_law_181 (by decide) ?_
  refine V_iadd dL_law_182 ?_
  refine V_ro2 (j := 4 * j + 1) (nI_add (4 * j) 1) (by omega) (by omega) dL_law_183 ?_
  refine V_cv1P lk_L_103 cc_X6_append dL_law_184 hm0 (c_X6_append hm r1 _) (xFit.mk (by decide) (by decide) (by show c + 1 + 0 ≤ 601024; omega) (by show s + 6 + 0 ≤ 7293034; omega)) (Nat.le_of_ble_eq_true rfl) (fun o9 q9 hq9 => ?_)
  obtain ⟨b, M2, rfl, b9, rfl, r2, z2, f2⟩ := hq9
  have li : LI M2 L1 o m (if (if (E.2.2.2.2 (4 * j + 1)) < 0 ∨ 255 < (E.2.2.2.2 (4 * j + 1)) then 1 else if S.1 < 100 then 0 else 2) = 0 then sText S (E.2.2.2.2 (4 * j + 1)) else S) (T + 99) (B + 216000) := ⟨c1.outM (fun z q1 q2 => f2 z (by omega)), r2, W_if (fun k0 => W_text hw _) (hw.mono (by omega) (by omega))⟩
  show V E l _ _ (false, n, K, G, M2, L1) (c + 1, s + 6) 187 _ [.int b]
  refine V_ist6 dL_law_187 rfl (by decide) ?_
  refine V_ald2 dL_law_189 ?_
  refine V_cv0R lk_L_104 cc_X6_thrown dL_law_190 hm0 (c_X6_thrown hm0) (xFit.mk (by decide) (by decide) (by show c + 1 + 0 ≤ 601024; omega) (by show s + 6 + 0 ≤ 7293034; omega)) rfl rfl (Nat.le_of_ble_eq_true rfl) ?_
  rw [z2]
  refine V_ild5 dL_law_193 ?_
  refine V_icmp_eq (tgt := 200) dL_law_195 (by decide) (fun h195 => ?_) (fun h195 => ?_)
  · refine V_ild5 dL_law_200 ?_
    refine V_if_ne (tgt := 217) dL_law_202 (by decide) (fun h202 => ?_) (fun h202 => ?_)
    · refine V_goto (tgt := 1720) dL_law_217 (by decide) ?_
      exact next _ _ _ _ _ _ li
    · refine V_ald3 dL_law_205 ?_
      refine V_iconst (v := 0) dL_law_206 (by decide) ?_
      refine V_lald (j := 0) dL_law_207 (by assumption) (by decide) (by decide) ?_
      refine V_ild6 dL_law_208 ?_
      refine V_i2l dL_law_210 ?_
      refine V_lcmp dL_law_211 ?_
      refine V_if_eq (tgt := 217) dL_law_212 (by decide) (fun h212 => ?_) (fun h212 => ?_)
      · refine V_goto (tgt := 1720) dL_law_217 (by decide) ?_
        exact next _ _ _ _ _ _ li
      · exact absurd ((lg_cmp_eq _ _).mpr (by rw [a1 (nI_03 k3 h202), b9 (nI_03 k3 h202)])) h212
  · exact absurd rfl h195
theorem L_c_clearText (hl9 : l.stackTraces = false) (hx : rX n K G o) (hm : rM n K G m) (hu : xIs n K u 11 1) (s1 : o + 288 < m) (s2 : m + 7 < u) (hi : LI M L o m S T B) (t1 : 10000 ≤ T) (t2 : T ≤ 240000) (b1 : 21600000 ≤ B) (b2 : B ≤ 200000000) (hcc : c + 1 ≤ 601024) (hss : s + 6 ≤ 7293034) (hj : 4 * j + 4 ≤ E.2.2.2.1) (hN : E.2.2.2.1 ≤ 2048)
    (next : ∀ M' L' S' o5 o6 o7, LI M' L' o m S' (T + 99) (B + 216000) → V E l Y_L_law Q (false, n, K, G, M', L') (c + 1, s + 6) 1720 [some (.ref 2), some (.ref o), some (.ref m), some (.ref u), some (.int (nI (4 * j))), o5, o6, o7] []) (o5 o6 o7 : Option Value) :
    V E l Y_L_law Q (false, n, K, G, M, L) (c, s) 220 [some (.ref 2), some (.ref o), some (.ref m), some (.ref u), some (.int (nI (4 * j))), o5, o6, o7] [] := by
  obtain ⟨hc, hr, hw⟩ := hi
  have hx0 := hx.1
  have hm0 := hm.1
  refine V_ald1 dL_law_220 ?_
  refine V_cv0P lk_L_107 cc_X5_clearText dL_law_221 hx0 (c_X5_clearTextG hx hc) (xFit.mk (by decide) (by decide) (by show c + 0 ≤ 601024; omega) (by show s + 0 ≤ 7293034; omega)) (Nat.le_of_ble_eq_true rfl) (fun o9 q9 hq9 => ?_)
  obtain ⟨-, rfl, M1, L1, rfl, c1, f1⟩ := hq9
  have r1 : MRel M1 m S := hr.cong (fun z q1 q2 => funext (f1 z (by omega)).1)
  show V E l _ _ (false, n, K, G, M1, L1) (c, s) 224 _ [.int (nI S.1)]
  refine V_ald2 dL_law_224 ?_
  refine V_cv0P lk_L_110 cc_X6_clearText dL_law_225 hm0 (c_X6_clearText hm r1) (xFit.mk (by decide) (by decide) (by show c + 0 ≤ 601024; omega) (by show s + 0 ≤ 7293034; omega)) (Nat.le_of_ble_eq_true rfl) (fun o9 q9 hq9 => ?_)
  obtain ⟨b, M2, rfl, b9, rfl, r2, z2, f2⟩ := hq9
  have li : LI M2 L1 o m (sWipe S) (T + 99) (B + 216000) := ⟨c1.outM (fun z q1 q2 => f2 z (by omega)), r2, W_wipe hw⟩
  show V E l _ _ (false, n, K, G, M2, L1) (c, s) 228 _ [.int b, .int (nI S.1)]
  refine V_icmp_eq (tgt := 1720) dL_law_228 (by decide) (fun h228 => ?_) (fun h228 => ?_)
  · exact V_widen (k := c + 1) (n := s + 6) (Nat.le_succ c) (Nat.le_add_right s 6) (next _ _ _ _ _ _ li)
  · exact absurd (b9 rfl).symm h228
theorem L_c_errorPosition (hl9 : l.stackTraces = false) (hx : rX n K G o) (hm : rM n K G m) (hu : xIs n K u 11 1) (s1 : o + 288 < m) (s2 : m + 7 < u) (hi : LI M L o m S T B) (t1 : 10000 ≤ T) (t2 : T ≤ 240000) (b1 : 21600000 ≤ B) (b2 : B ≤ 200000000) (hcc : c + 1 ≤ 601024) (hss : s + 6 ≤ 7293034) (hj : 4 * j + 4 ≤ E.2.2.2.1) (hN : E.2.2.2.1 ≤ 2048)
    (next : ∀ M' L' S' o5 o6 o7, LI M' L' o m S' (T + 99) (B + 216000) → V E l Y_L_law Q (false, n, K, G, M', L') (c + 1, s + 6) 1720 [some (.ref 2), some (.ref o), some (.ref m), some (.ref u), some (.int (nI (4 * j))), o5, o6, o7] []) (o5 o6 o7 : Option Value) :
    V E l Y_L_law Q (false, n, K, G, M, L) (c, s) 233 [some (.ref 2), some (.ref o), some (.ref m), some (.ref u), some (.int (nI (4 * j))), o5, o6, o7] [] := by
  obtain ⟨hc, hr, hw⟩ := hi
  have hx0 := hx.1
  have hm0 := hm.1
  refine V_ald1 dL_law_233 ?_
  refine V_cv0R lk_L_111 cc_X5_errorPosition dL_law_234 hx0 (c_X5_errorPosition hx hc) (xFit.mk (by decide) (by decide) (by show c + 0 ≤ 601024; omega) (by show s + 0 ≤ 7293034; omega)) rfl rfl (Nat.le_of_ble_eq_true rfl) ?_
  refine V_ald2 dL_law_237 ?_
  refine V_cv0P lk_L_114 cc_X6_errorPosition dL_law_238 hm0 (c_X6_errorPosition hm hr) (xFit.mk (by decide) (by decide) (by show c + 0 ≤ 601024; omega) (by show s + 0 ≤ 7293034; omega)) (Nat.le_of_ble_eq_true rfl) (fun o9 q9 hq9 => ?_)
  obtain ⟨b, M2, rfl, b9, rfl, r2, z2, f2⟩ := hq9
  have li : LI M2 L o m (S) (T + 99) (B + 216000) := ⟨hc.outM (fun z q1 q2 => f2 z (by omega)), r2, hw.mono (by omega) (by omega)⟩
  show V E l _ _ (false, n, K, G, M2, L) (c, s) 241 _ [.int b, .int (kFirst (kSg S.2.1 S.1) S.1)]
  refine V_icmp_eq (tgt := 1720) dL_law_241 (by decide) (fun h241 => ?_) (fun h241 => ?_)
  · exact V_widen (k := c + 1) (n := s + 6) (Nat.le_succ c) (Nat.le_add_right s 6) (next _ _ _ _ _ _ li)
  · exact absurd (b9 rfl).symm h241
theorem L_c_load (hl9 : l.stackTraces = false) (hx : rX n K G o) (hm : rM n K G m) (hu : xIs n K u 11 1) (s1 : o + 288 < m) (s2 : m + 7 < u) (hi : LI M L o m S T B) (t1 : 10000 ≤ T) (t2 : T ≤ 240000) (b1 : 21600000 ≤ B) (b2 : B ≤ 200000000) (hcc : c + 1 ≤ 601024) (hss : s + 6 ≤ 7293034) (hj : 4 * j + 4 ≤ E.2.2.2.1) (hN : E.2.2.2.1 ≤ 2048)
    (next : ∀ M' L' S' o5 o6 o7, LI M' L' o m S' (T + 99) (B + 216000) → V E l Y_L_law Q (false, n, K, G, M', L') (c + 1, s + 6) 1720 [some (.ref 2), some (.ref o), some (.ref m), some (.ref u), some (.int (nI (4 * j))), o5, o6, o7] []) (o5 o6 o7 : Option Value) :
    V E l Y_L_law Q (false, n, K, G, M, L) (c, s) 246 [some (.ref 2), some (.ref o), some (.ref m), some (.ref u), some (.int (nI (4 * j))), o5, o6, o7] [] := by
  obtain ⟨hc, hr, hw⟩ := hi
  have hx0 := hx.1
  have hm0 := hm.1
  refine V_ald1 dL_law_246 ?_
  refine V_ald3 dL_law_247 ?_
  refine V_csH (Y' := Y_L_load) (As := [.ref o, .ref u]) (rest := []) ml_L_115 (List.cons_ne_nil _ _) mc_L_load mi_L hn_L_load mt_L_load dL_law_248 (c_L_load hx hu (Or.inr (by omega)) hc (c_X5_load hl9 hx hc)) (xFit.mk (by decide) (by decide) hcc hss) (Nat.le_of_ble_eq_true rfl) (fun o9 q9 hq9 => ?_)
  obtain ⟨x9, M1, L1, rfl, rfl, c1, f1, a1, k3⟩ := hq9
  refine V_loose ?_
  have r1 : MRel M1 m S := hr.cong (fun z q1 q2 => (f1 z (by omega) (by omega)).1)
  show V E l _ _ (false, n, K, G, M1, L1) (c + 1, s + 6) 251 _ [.int (nI (kdLoad S))]
  refine V_ist5 dL_law_251 rfl (by decide) ?_
  refine V_ald2 dL_law_253 ?_
  refine V_cv0P lk_L_118 cc_X6_load dL_law_254 hm0 (c_X6_load hm r1) (xFit.mk (by decide) (by decide) (by show c + 1 + 0 ≤ 601024; omega) (by show s + 6 + 0 ≤ 7293034; omega)) (Nat.le_of_ble_eq_true rfl) (fun o9 q9 hq9 => ?_)
  obtain ⟨b, M2, rfl, b9, rfl, r2, z2, f2⟩ := hq9
  have li : LI M2 L1 o m (if kdLoad S = 0 then sLoad S else S) (T + 99) (B + 216000) := ⟨c1.outM (fun z q1 q2 => f2 z (by omega)), r2, W_if (fun k0 => W_load hc.1.2 t1 b1 k0) (hw.mono (by omega) (by omega))⟩
  show V E l _ _ (false, n, K, G, M2, L1) (c + 1, s + 6) 257 _ [.int b]
  refine V_ist6 dL_law_257 rfl (by decide) ?_
  refine V_ald2 dL_law_259 ?_
  refine V_cv0R lk_L_104 cc_X6_thrown dL_law_260 hm0 (c_X6_thrown hm0) (xFit.mk (by decide) (by decide) (by show c + 1 + 0 ≤ 601024; omega) (by show s + 6 + 0 ≤ 7293034; omega)) rfl rfl (Nat.le_of_ble_eq_true rfl) ?_
  rw [z2]
  refine V_ild5 dL_law_263 ?_
  refine V_icmp_eq (tgt := 270) dL_law_265 (by decide) (fun h265 => ?_) (fun h265 => ?_)
  · refine V_ild5 dL_law_270 ?_
    refine V_if_ne (tgt := 287) dL_law_272 (by decide) (fun h272 => ?_) (fun h272 => ?_)
    · refine V_goto (tgt := 1720) dL_law_287 (by decide) ?_
      exact next _ _ _ _ _ _ li
    · refine V_ald3 dL_law_275 ?_
      refine V_iconst (v := 0) dL_law_276 (by decide) ?_
      refine V_lald (j := 0) dL_law_277 (by assumption) (by decide) (by decide) ?_
      refine V_ild6 dL_law_278 ?_
      refine V_i2l dL_law_280 ?_
      refine V_lcmp dL_law_281 ?_
      refine V_if_eq (tgt := 287) dL_law_282 (by decide) (fun h282 => ?_) (fun h282 => ?_)
      · refine V_goto (tgt := 1720) dL_law_287 (by decide) ?_
        exact next _ _ _ _ _ _ li
      · exact absurd ((lg_cmp_eq _ _).mpr (by rw [a1 (nI_03 k3 h272), b9 (nI_03 k3 h272)])) h282
  · exact absurd rfl h265
theorem L_c_about (hl9 : l.stackTraces = false) (hx : rX n K G o) (hm : rM n K G m) (hu : xIs n K u 11 1) (s1 : o + 288 < m) (s2 : m + 7 < u) (hi : LI M L o m S T B) (t1 : 10000 ≤ T) (t2 : T ≤ 240000) (b1 : 21600000 ≤ B) (b2 : B ≤ 200000000) (hcc : c + 1 ≤ 601024) (hss : s + 6 ≤ 7293034) (hj : 4 * j + 4 ≤ E.2.2.2.1) (hN : E.2.2.2.1 ≤ 2048)
    (next : ∀ M' L' S' o5 o6 o7, LI M' L' o m S' (T + 99) (B + 216000) → V E l Y_L_law Q (false, n, K, G, M', L') (c + 1, s + 6) 1720 [some (.ref 2), some (.ref o), some (.ref m), some (.ref u), some (.int (nI (4 * j))), o5, o6, o7] []) (o5 o6 o7 : Option Value) :
    V E l Y_L_law Q (false, n, K, G, M, L) (c, s) 290 [some (.ref 2), some (.ref o), some (.ref m), some (.ref u), some (.int (nI (4 * j))), o5, o6, o7] [] := by
  obtain ⟨hc, hr, hw⟩ := hi
  have hx0 := hx.1
  have hm0 := hm.1
  refine V_ald1 dL_law_290 ?_
  refine V_ald0 dL_law_291 ?_
  refine V_ild4 dL_law_292 ?_
  refine V_iconst (v := 1) dL_law_294 (by decide) ?_
  refine V_iadd dL_law_295 ?_
  refine V_ro2 (j := 4 * j + 1) (nI_add (4 * j) 1) (by omega) (by omega) dL_law_296 ?_
  refine V_ald3 dL_law_297 ?_
  refine V_csH (Y' := Y_L_about) (As := [.ref o, .int (E.2.2.2.2 (4 * j + 1)), .ref u]) (rest := []) ml_L_119 (List.cons_ne_nil _ _) mc_L_about mi_L hn_L_about mt_L_about dL_law_298 (c_L_about hx hu (Or.inr (by omega)) hc _ (c_X5_aboutO hl9 hx hc hw (by omega) _)) (xFit.mk (by decide) (by decide) hcc hss) (Nat.le_of_ble_eq_true rfl) (fun o9 q9 hq9 => ?_)
  obtain ⟨x9, M1, L1, rfl, rfl, c1, f1, a1, k3⟩ := hq9
  refine V_loose ?_
  have r1 : MRel M1 m S := hr.cong (fun z q1 q2 => (f1 z (by omega) (by omega)).1)
  show V E l _ _ (false, n, K, G, M1, L1) (c + 1, s + 6) 301 _ [.int (nI (kdO (E.2.2.2.2 (4 * j + 1)) 0 11))]
  refine V_ist5 dL_law_301 rfl (by decide) ?_
  refine V_ald2 dL_law_303 ?_
  refine V_ald0 dL_law_304 ?_
  refine V_ild4 dL_law_305 ?_
  refine V_iconst (v := 1) dL_law_307 (by decide) ?_
  refine V_iadd dL_law_308 ?_
  refine V_ro2 (j := 4 * j + 1) (nI_add (4 * j) 1) (by omega) (by omega) dL_law_309 ?_
  refine V_cv1P lk_L_121 cc_X6_about dL_law_310 hm0 (c_X6_about hm r1 hw.1 _) (xFit.mk (by decide) (by decide) (by show c + 1 + 0 ≤ 601024; omega) (by show s + 6 + 0 ≤ 7293034; omega)) (Nat.le_of_ble_eq_true rfl) (fun o9 q9 hq9 => ?_)
  obtain ⟨b, M2, rfl, b9, rfl, r2, z2, f2⟩ := hq9
  have li : LI M2 L1 o m (if kdO (E.2.2.2.2 (4 * j + 1)) 0 11 = 0 then S else S) (T + 99) (B + 216000) := ⟨c1.outM (fun z q1 q2 => f2 z (by omega)), (by rw [ite_self]; exact r2), (by rw [ite_self]; exact hw.mono (by omega) (by omega))⟩
  show V E l _ _ (false, n, K, G, M2, L1) (c + 1, s + 6) 313 _ [.int b]
  refine V_ist6 dL_law_313 rfl (by decide) ?_
  refine V_ald2 dL_law_315 ?_
  refine V_cv0R lk_L_104 cc_X6_thrown dL_law_316 hm0 (c_X6_thrown hm0) (xFit.mk (by decide) (by decide) (by show c + 1 + 0 ≤ 601024; omega) (by show s + 6 + 0 ≤ 7293034; omega)) rfl rfl (Nat.le_of_ble_eq_true rfl) ?_
  rw [z2]
  refine V_ild5 dL_law_319 ?_
  refine V_icmp_eq (tgt := 326) dL_law_321 (by decide) (fun h321 => ?_) (fun h321 => ?_)
  · refine V_ild5 dL_law_326 ?_
    refine V_if_ne (tgt := 343) dL_law_328 (by decide) (fun h328 => ?_) (fun h328 => ?_)
    · refine V_goto (tgt := 1720) dL_law_343 (by decide) ?_
      exact next _ _ _ _ _ _ li
    · refine V_ald3 dL_law_331 ?_
      refine V_iconst (v := 0) dL_law_332 (by decide) ?_
      refine V_lald (j := 0) dL_law_333 (by assumption) (by decide) (by decide) ?_
      refine V_ild6 dL_law_334 ?_
      refine V_i2l dL_law_336 ?_
      refine V_lcmp dL_law_337 ?_
      refine V_if_eq (tgt := 343) dL_law_338 (by decide) (fun h338 => ?_) (fun h338 => ?_)
      · refine V_goto (tgt := 1720) dL_law_343 (by decide) ?_
        exact next _ _ _ _ _ _ li
      · exact absurd ((lg_cmp_eq _ _).mpr (by rw [a1 (nI_03 k3 h328), b9 (nI_03 k3 h328)])) h338
  · exact absurd rfl h321
theorem L_c_setting (hl9 : l.stackTraces = false) (hx : rX n K G o) (hm : rM n K G m) (hu : xIs n K u 11 1) (s1 : o + 288 < m) (s2 : m + 7 < u) (hi : LI M L o m S T B) (t1 : 10000 ≤ T) (t2 : T ≤ 240000) (b1 : 21600000 ≤ B) (b2 : B ≤ 200000000) (hcc : c + 1 ≤ 601024) (hss : s + 6 ≤ 7293034) (hj : 4 * j + 4 ≤ E.2.2.2.1) (hN : E.2.2.2.1 ≤ 2048)
    (next : ∀ M' L' S' o5 o6 o7, LI M' L' o m S' (T + 99) (B + 216000) → V E l Y_L_law Q (false, n, K, G, M', L') (c + 1, s + 6) 1720 [some (.ref 2), some (.ref o), some (.ref m), some (.ref u), some (.int (nI (4 * j))), o5, o6, o7] []) (o5 o6 o7 : Option Value) :
    V E l Y_L_law Q (false, n, K, G, M, L) (c, s) 346 [some (.ref 2), some (.ref o), some (.ref m), some (.ref u), some (.int (nI (4 * j))), o5, o6, o7] [] := by
  obtain ⟨hc, hr, hw⟩ := hi
  have hx0 := hx.1
  have hm0 := hm.1
  refine V_ald1 dL_law_346 ?_
  refine V_ald0 dL_law_347 ?_
  refine V_ild4 dL_law_348 ?_
  refine V_iconst (v := 1) dL_law_350 (by decide) ?_
  refine V_iadd dL_law_351 ?_
  refine V_ro2 (j := 4 * j + 1) (nI_add (4 * j) 1) (by omega) (by omega) dL_law_352 ?_
  refine V_ald3 dL_law_353 ?_
  refine V_csH (Y' := Y_L_setting) (As := [.ref o, .int (E.2.2.2.2 (4 * j + 1)), .ref u]) (rest := []) ml_L_122 (List.cons_ne_nil _ _) mc_L_setting mi_L hn_L_setting mt_L_setting dL_law_354 (c_L_setting hx hu (Or.inr (by omega)) hc _ ((c_X5_setting hl9 hx hc _).weak (xW_G hc) (fun _ _ q => q))) (xFit.mk (by decide) (by decide) hcc hss) (Nat.le_of_ble_eq_true rfl) (fun o9 q9 hq9 => ?_)
  obtain ⟨x9, M1, L1, rfl, rfl, c1, f1, a1, k3⟩ := hq9
  refine V_loose ?_
  have r1 : MRel M1 m S := hr.cong (fun z q1 q2 => (f1 z (by omega) (by omega)).1)
  show V E l _ _ (false, n, K, G, M1, L1) (c + 1, s + 6) 357 _ [.int (nI (kdO (E.2.2.2.2 (4 * j + 1)) 0 4))]
  refine V_ist5 dL_law_357 rfl (by decide) ?_
  refine V_ald2 dL_law_359 ?_
  refine V_ald0 dL_law_360 ?_
  refine V_ild4 dL_law_361 ?_
  refine V_iconst (v := 1) dL_law_363 (by decide) ?_
  refine V_iadd dL_law_364 ?_
  refine V_ro2 (j := 4 * j + 1) (nI_add (4 * j) 1) (by omega) (by omega) dL_law_365 ?_
  refine V_cv1P lk_L_124 cc_X6_setting dL_law_366 hm0 (c_X6_setting hm r1 _) (xFit.mk (by decide) (by decide) (by show c + 1 + 0 ≤ 601024; omega) (by show s + 6 + 0 ≤ 7293034; omega)) (Nat.le_of_ble_eq_true rfl) (fun o9 q9 hq9 => ?_)
  obtain ⟨b, M2, rfl, b9, rfl, r2, z2, f2⟩ := hq9
  have li : LI M2 L1 o m (if kdO (E.2.2.2.2 (4 * j + 1)) 0 4 = 0 then S else S) (T + 99) (B + 216000) := ⟨c1.outM (fun z q1 q2 => f2 z (by omega)), (by rw [ite_self]; exact r2), (by rw [ite_self]; exact hw.mono (by omega) (by omega))⟩
  show V E l _ _ (false, n, K, G, M2, L1) (c + 1, s + 6) 369 _ [.int b]
  refine V_ist6 dL_law_369 rfl (by decide) ?_
  refine V_ald2 dL_law_371 ?_
  refine V_cv0R lk_L_104 cc_X6_thrown dL_law_372 hm0 (c_X6_thrown hm0) (xFit.mk (by decide) (by decide) (by show c + 1 + 0 ≤ 601024; omega) (by show s + 6 + 0 ≤ 7293034; omega)) rfl rfl (Nat.le_of_ble_eq_true rfl) ?_
  rw [z2]
  refine V_ild5 dL_law_375 ?_
  refine V_icmp_eq (tgt := 382) dL_law_377 (by decide) (fun h377 => ?_) (fun h377 => ?_)
  · refine V_ild5 dL_law_382 ?_
    refine V_if_ne (tgt := 399) dL_law_384 (by decide) (fun h384 => ?_) (fun h384 => ?_)
    · refine V_goto (tgt := 1720) dL_law_399 (by decide) ?_
      exact next _ _ _ _ _ _ li
    · refine V_ald3 dL_law_387 ?_
      refine V_iconst (v := 0) dL_law_388 (by decide) ?_
      refine V_lald (j := 0) dL_law_389 (by assumption) (by decide) (by decide) ?_
      refine V_ild6 dL_law_390 ?_
      refine V_i2l dL_law_392 ?_
      refine V_lcmp dL_law_393 ?_
      refine V_if_eq (tgt := 399) dL_law_394 (by decide) (fun h394 => ?_) (fun h394 => ?_)
      · refine V_goto (tgt := 1720) dL_law_399 (by decide) ?_
        exact next _ _ _ _ _ _ li
      · exact absurd ((lg_cmp_eq _ _).mpr (by rw [a1 (nI_03 k3 h384), b9 (nI_03 k3 h384)])) h394
  · exact absurd rfl h377
theorem L_c_bin (hl9 : l.stackTraces = false) (hx : rX n K G o) (hm : rM n K G m) (hu : xIs n K u 11 1) (s1 : o + 288 < m) (s2 : m + 7 < u) (hi : LI M L o m S T B) (t1 : 10000 ≤ T) (t2 : T ≤ 240000) (b1 : 21600000 ≤ B) (b2 : B ≤ 200000000) (hcc : c + 1 ≤ 601024) (hss : s + 6 ≤ 7293034) (hj : 4 * j + 4 ≤ E.2.2.2.1) (hN : E.2.2.2.1 ≤ 2048)
    (next : ∀ M' L' S' o5 o6 o7, LI M' L' o m S' (T + 99) (B + 216000) → V E l Y_L_law Q (false, n, K, G, M', L') (c + 1, s + 6) 1720 [some (.ref 2), some (.ref o), some (.ref m), some (.ref u), some (.int (nI (4 * j))), o5, o6, o7] []) (o5 o6 o7 : Option Value) :
    V E l Y_L_law Q (false, n, K, G, M, L) (c, s) 402 [some (.ref 2), some (.ref o), some (.ref m), some (.ref u), some (.int (nI (4 * j))), o5, o6, o7] [] := by
  obtain ⟨hc, hr, hw⟩ := hi
  have hx0 := hx.1
  have hm0 := hm.1
  refine V_ald1 dL_law_402 ?_
  refine V_ald0 dL_law_403 ?_
  refine V_ild4 dL_law_404 ?_
  refine V_iconst (v := 1) dL_law_406 (by decide) ?_
  refine V_iadd dL_law_407 ?_
  refine V_ro2 (j := 4 * j + 1) (nI_add (4 * j) 1) (by omega) (by omega) dL_law_408 ?_
  refine V_ald0 dL_law_409 ?_
  refine V_ild4 dL_law_410 ?_
  refine V_iconst (v := 2) dL_law_412 (by decide) ?_
  refine V_iadd dL_law_413 ?_
  refine V_ro2 (j := 4 * j + 2) (nI_add (4 * j) 2) (by omega) (by omega) dL_law_414 ?_
  refine V_ald3 dL_law_415 ?_
  refine V_csH (Y' := Y_L_bin) (As := [.ref o, .int (E.2.2.2.2 (4 * j + 1)), .int (E.2.2.2.2 (4 * j + 2)), .ref u]) (rest := []) ml_L_125 (List.cons_ne_nil _ _) mc_L_bin mi_L hn_L_bin mt_L_bin dL_law_416 (c_L_bin hx hu (Or.inr (by omega)) hc _ _ ((c_X5_bin hl9 hx hc _ _).weak (xW_G hc) (fun _ _ q => q))) (xFit.mk (by decide) (by decide) hcc hss) (Nat.le_of_ble_eq_true rfl) (fun o9 q9 hq9 => ?_)
  obtain ⟨x9, M1, L1, rfl, rfl, c1, f1, a1, k3⟩ := hq9
  refine V_loose ?_
  have r1 : MRel M1 m S := hr.cong (fun z q1 q2 => (f1 z (by omega) (by omega)).1)
  show V E l _ _ (false, n, K, G, M1, L1) (c + 1, s + 6) 419 _ [.int (nI (kdBin (E.2.2.2.2 (4 * j + 1)) (E.2.2.2.2 (4 * j + 2))))]
  refine V_ist5 dL_law_419 rfl (by decide) ?_
  refine V_ald2 dL_law_421 ?_
  refine V_ald0 dL_law_422 ?_
  refine V_ild4 dL_law_423 ?_
  refine V_iconst (v := 1) dL_law_425 (by decide) ?_
  refine V_iadd dL_law_426 ?_
  refine V_ro2 (j := 4 * j + 1) (nI_add (4 * j) 1) (by omega) (by omega) dL_law_427 ?_
  refine V_ald0 dL_law_428 ?_
  refine V_ild4 dL_law_429 ?_
  refine V_iconst (v := 2) dL_law_431 (by decide) ?_
  refine V_iadd dL_law_432 ?_
  refine V_ro2 (j := 4 * j + 2) (nI_add (4 * j) 2) (by omega) (by omega) dL_law_433 ?_
  refine V_cv2P lk_L_128 cc_X6_bin dL_law_434 hm0 (c_X6_bin hm r1 _ _) (xFit.mk (by decide) (by decide) (by show c + 1 + 0 ≤ 601024; omega) (by show s + 6 + 0 ≤ 7293034; omega)) (Nat.le_of_ble_eq_true rfl) (fun o9 q9 hq9 => ?_)
  obtain ⟨b, M2, rfl, b9, rfl, r2, z2, f2⟩ := hq9
  have li : LI M2 L1 o m (if kdBin (E.2.2.2.2 (4 * j + 1)) (E.2.2.2.2 (4 * j + 2)) = 0 then S else S) (T + 99) (B + 216000) := ⟨c1.outM (fun z q1 q2 => f2 z (by omega)), (by rw [ite_self]; exact r2), (by rw [ite_self]; exact hw.mono (by omega) (by omega))⟩
  show V E l _ _ (false, n, K, G, M2, L1) (c + 1, s + 6) 437 _ [.int b]
  refine V_ist6 dL_law_437 rfl (by decide) ?_
  refine V_ald2 dL_law_439 ?_
  refine V_cv0R lk_L_104 cc_X6_thrown dL_law_440 hm0 (c_X6_thrown hm0) (xFit.mk (by decide) (by decide) (by show c + 1 + 0 ≤ 601024; omega) (by show s + 6 + 0 ≤ 7293034; omega)) rfl rfl (Nat.le_of_ble_eq_true rfl) ?_
  rw [z2]
  refine V_ild5 dL_law_443 ?_
  refine V_icmp_eq (tgt := 450) dL_law_445 (by decide) (fun h445 => ?_) (fun h445 => ?_)
  · refine V_ild5 dL_law_450 ?_
    refine V_if_ne (tgt := 467) dL_law_452 (by decide) (fun h452 => ?_) (fun h452 => ?_)
    · refine V_goto (tgt := 1720) dL_law_467 (by decide) ?_
      exact next _ _ _ _ _ _ li
    · refine V_ald3 dL_law_455 ?_
      refine V_iconst (v := 0) dL_law_456 (by decide) ?_
      refine V_lald (j := 0) dL_law_457 (by assumption) (by decide) (by decide) ?_
      refine V_ild6 dL_law_458 ?_
      refine V_i2l dL_law_460 ?_
      refine V_lcmp dL_law_461 ?_
      refine V_if_eq (tgt := 467) dL_law_462 (by decide) (fun h462 => ?_) (fun h462 => ?_)
      · refine V_goto (tgt := 1720) dL_law_467 (by decide) ?_
        exact next _ _ _ _ _ _ li
      · exact absurd ((lg_cmp_eq _ _).mpr (by rw [a1 (nI_03 k3 h452), b9 (nI_03 k3 h452)])) h462
  · exact absurd rfl h445
end C75

/-! ===== the law: its cases: quietIn, replay, bestWindow, runScript, simulate, save, restore ===== -/
section C78
variable {E : xEnv} {l : Launch} {Q : xQ} {n o m u j c s T B : Nat} {K : xKnd} {G : xRef} {M : xMem} {L : xLng} {S : xSp}
theorem L_c_quietIn (hl9 : l.stackTraces = false) (hx : rX n K G o) (hm : rM n K G m) (hu : xIs n K u 11 1) (s1 : o + 288 < m) (s2 : m + 7 < u) (hi : LI M L o m S T B) (t1 : 10000 ≤ T) (t2 : T ≤ 240000) (b1 : 21600000 ≤ B) (b2 : B ≤ 200000000) (hcc : c + 1 ≤ 601024) (hss : s + 6 ≤ 7293034) (hj : 4 * j + 4 ≤ E.2.2.2.1) (hN : E.2.2.2.1 ≤ 2048)
    (next : ∀ M' L' S' o5 o6 o7, LI M' L' o m S' (T + 99) (B + 216000) → V E l Y_L_law Q (false, n, K, G, M', L') (c + 1, s + 6) 1720 [some (.ref 2), some (.ref o), some (.ref m), some (.ref u), some (.int (nI (4 * j))), o5, o6, o7] []) (o5 o6 o7 : Option Value) :
    V E l Y_L_law Q (false, n, K, G, M, L) (c, s) 1216 [some (.ref 2), some (.ref o), some (.ref m), some (.ref u), some (.int (nI (4 * j))), o5, o6, o7] [] := by
  obtain ⟨hc, hr, hw⟩ := hi
  have hx0 := hx.1
  have hm0 := hm.1
  refine V_ald1 dL_law_1216 ?_
  refine V_ald0 dL_law_1217 ?_
  refine V_ild4 dL_law_1218 ?_
  refine V_iconst (v := 1) dL_law_1220 (by decide) ?_
  refine V_iadd dL_law_1221 ?_
  refine V_ro2 (j := 4 * j + 1) (nI_add (4 * j) 1) (by omega) (by omega) dL_law_1222 ?_
  refine V_ald3 dL_law_1223 ?_
  refine V_csH (Y' := Y_L_quietIn) (As := [.ref o, .int (E.2.2.2.2 (4 * j + 1)), .ref u]) (rest := []) ml_L_174 (List.cons_ne_nil _ _) mc_L_quietIn mi_L hn_L_quietIn mt_L_quietIn dL_law_1224 (c_L_quietIn hx hu (Or.inr (by omega)) hc _ ((c_X5_quietIn hl9 hx hc hw (by omega) _).weak (xW_G hc) (fun _ _ q => q))) (xFit.mk (by decide) (by decide) hcc hss) (Nat.le_of_ble_eq_true rfl) (fun o9 q9 hq9 => ?_)
  obtain ⟨x9, M1, L1, rfl, rfl, c1, f1, a1, k3⟩ := hq9
  refine V_loose ?_
  have r1 : MRel M1 m S := hr.cong (fun z q1 q2 => (f1 z (by omega) (by omega)).1)
  show V E l _ _ (false, n, K, G, M1, L1) (c + 1, s + 6) 1227 _ [.int (nI (kdO (E.2.2.2.2 (4 * j + 1)) 0 5000))]
  refine V_ist5 dL_law_1227 rfl (by decide) ?_
  refine V_ald2 dL_law_1229 ?_
  refine V_ald0 dL_law_1230 ?_
  refine V_ild4 dL_law_1231 ?_
  refine V_iconst (v := 1) dL_law_1233 (by decide) ?_
  refine V_iadd dL_law_1234 ?_
  refine V_ro2 (j := 4 * j + 1) (nI_add (4 * j) 1) (by omega) (by omega) dL_law_1235 ?_
  refine V_cv1P lk_L_176 cc_X6_quietIn dL_law_1236 hm0 (c_X6_quietIn hm r1 hw.1 (by omega) _) (xFit.mk (by decide) (by decide) (by show c + 1 + 0 ≤ 601024; omega) (by show s + 6 + 0 ≤ 7293034; omega)) (Nat.le_of_ble_eq_true rfl) (fun o9 q9 hq9 => ?_)
  obtain ⟨b, M2, rfl, b9, rfl, r2, z2, f2⟩ := hq9
  have li : LI M2 L1 o m (if kdO (E.2.2.2.2 (4 * j + 1)) 0 5000 = 0 then S else S) (T + 99) (B + 216000) := ⟨c1.outM (fun z q1 q2 => f2 z (by omega)), (by rw [ite_self]; exact r2), (by rw [ite_self]; exact hw.mono (by omega) (by omega))⟩
  show V E l _ _ (false, n, K, G, M2, L1) (c + 1, s + 6) 1239 _ [.int b]
  refine V_ist6 dL_law_1239 rfl (by decide) ?_
  refine V_ald2 dL_law_1241 ?_
  refine V_cv0R lk_L_104 cc_X6_thrown dL_law_1242 hm0 (c_X6_thrown hm0) (xFit.mk (by decide) (by decide) (by show c + 1 + 0 ≤ 601024; omega) (by show s + 6 + 0 ≤ 7293034; omega)) rfl rfl (Nat.le_of_ble_eq_true rfl) ?_
  rw [z2]
  refine V_ild5 dL_law_1245 ?_
  refine V_icmp_eq (tgt := 1252) dL_law_1247 (by decide) (fun h1247 => ?_) (fun h1247 => ?_)
  · refine V_ild5 dL_law_1252 ?_
    refine V_if_ne (tgt := 1269) dL_law_1254 (by decide) (fun h1254 => ?_) (fun h1254 => ?_)
    · refine V_goto (tgt := 1720) dL_law_1269 (by decide) ?_
      exact next _ _ _ _ _ _ li
    · refine V_ald3 dL_law_1257 ?_
      refine V_iconst (v := 0) dL_law_1258 (by decide) ?_
      refine V_lald (j := 0) dL_law_1259 (by assumption) (by decide) (by decide) ?_
      refine V_ild6 dL_law_1260 ?_
      refine V_i2l dL_law_1262 ?_
      refine V_lcmp dL_law_1263 ?_
      refine V_if_eq (tgt := 1269) dL_law_1264 (by decide) (fun h1264 => ?_) (fun h1264 => ?_)
      · refine V_goto (tgt := 1720) dL_law_1269 (by decide) ?_
        exact next _ _ _ _ _ _ li
      · exact absurd ((lg_cmp_eq _ _).mpr (by rw [a1 (nI_03 k3 h1254), b9 (nI_03 k3 h1254)])) h1264
  · exact absurd rfl h1247
theorem L_c_replay (hl9 : l.stackTraces = false) (hx : rX n K G o) (hm : rM n K G m) (hu : xIs n K u 11 1) (s1 : o + 288 < m) (s2 : m + 7 < u) (hi : LI M L o m S T B) (t1 : 10000 ≤ T) (t2 : T ≤ 240000) (b1 : 21600000 ≤ B) (b2 : B ≤ 200000000) (hcc : c + 1 ≤ 601024) (hss : s + 6 ≤ 7293034) (hj : 4 * j + 4 ≤ E.2.2.2.1) (hN : E.2.2.2.1 ≤ 2048)
    (next : ∀ M' L' S' o5 o6 o7, LI M' L' o m S' (T + 99) (B + 216000) → V E l Y_L_law Q (false, n, K, G, M', L') (c + 1, s + 6) 1720 [some (.ref 2), some (.ref o), some (.ref m), some (.ref u), some (.int (nI (4 * j))), o5, o6, o7] []) (o5 o6 o7 : Option Value) :
    V E l Y_L_law Q (false, n, K, G, M, L) (c, s) 1272 [some (.ref 2), some (.ref o), some (.ref m), some (.ref u), some (.int (nI (4 * j))), o5, o6, o7] [] := by
  obtain ⟨hc, hr, hw⟩ := hi
  have hx0 := hx.1
  have hm0 := hm.1
  refine V_ald1 dL_law_1272 ?_
  refine V_ald0 dL_law_1273 ?_
  refine V_ild4 dL_law_1274 ?_
  refine V_iconst (v := 1) dL_law_1276 (by decide) ?_
  refine V_iadd dL_law_1277 ?_
  refine V_ro2 (j := 4 * j + 1) (nI_add (4 * j) 1) (by omega) (by omega) dL_law_1278 ?_
  refine V_ald0 dL_law_1279 ?_
  refine V_ild4 dL_law_1280 ?_
  refine V_iconst (v := 2) dL_law_1282 (by decide) ?_
  refine V_iadd dL_law_1283 ?_
  refine V_ro2 (j := 4 * j + 2) (nI_add (4 * j) 2) (by omega) (by omega) dL_law_1284 ?_
  refine V_ald0 dL_law_1285 ?_
  refine V_ild4 dL_law_1286 ?_
  refine V_iconst (v := 3) dL_law_1288 (by decide) ?_
  refine V_iadd dL_law_1289 ?_
  refine V_ro2 (j := 4 * j + 3) (nI_add (4 * j) 3) (by omega) (by omega) dL_law_1290 ?_
  refine V_ald3 dL_law_1291 ?_
  refine V_csH (Y' := Y_L_replay) (As := [.ref o, .int (E.2.2.2.2 (4 * j + 1)), .int (E.2.2.2.2 (4 * j + 2)), .int (E.2.2.2.2 (4 * j + 3)), .ref u]) (rest := []) ml_L_177 (List.cons_ne_nil _ _) mc_L_replay mi_L hn_L_replay mt_L_replay dL_law_1292 (c_L_replay hx hu (Or.inr (by omega)) hc _ _ _ (c_X5_replay hl9 hx hc hw (by omega) _ _ _)) (xFit.mk (by decide) (by decide) hcc hss) (Nat.le_of_ble_eq_true rfl) (fun o9 q9 hq9 => ?_)
  obtain ⟨x9, M1, L1, rfl, rfl, c1, f1, a1, k3⟩ := hq9
  refine V_loose ?_
  have r1 : MRel M1 m S := hr.cong (fun z q1 q2 => (f1 z (by omega) (by omega)).1)
  show V E l _ _ (false, n, K, G, M1, L1) (c + 1, s + 6) 1295 _ [.int (nI (kdRep (E.2.2.2.2 (4 * j + 1)) (E.2.2.2.2 (4 * j + 2)) (E.2.2.2.2 (4 * j + 3))))]
  refine V_ist5 dL_law_1295 rfl (by decide) ?_
  refine V_ald2 dL_law_1297 ?_
  refine V_ald0 dL_law_1298 ?_
  refine V_ild4 dL_law_1299 ?_
  refine V_iconst (v := 1) dL_law_1301 (by decide) ?_
  refine V_iadd dL_law_1302 ?_
  refine V_ro2 (j := 4 * j + 1) (nI_add (4 * j) 1) (by omega) (by omega) dL_law_1303 ?_
  refine V_ald0 dL_law_1304 ?_
  refine V_ild4 dL_law_1305 ?_
  refine V_iconst (v := 2) dL_law_1307 (by decide) ?_
  refine V_iadd dL_law_1308 ?_
  refine V_ro2 (j := 4 * j + 2) (nI_add (4 * j) 2) (by omega) (by omega) dL_law_1309 ?_
  refine V_ald0 dL_law_1310 ?_
  refine V_ild4 dL_law_1311 ?_
  refine V_iconst (v := 3) dL_law_1313 (by decide) ?_
  refine V_iadd dL_law_1314 ?_
  refine V_ro2 (j := 4 * j + 3) (nI_add (4 * j) 3) (by omega) (by omega) dL_law_1315 ?_
  refine V_cv3P lk_L_180 cc_X6_replay dL_law_1316 hm0 (c_X6_replay hm r1 hw.1 (by omega) _ _ _) (xFit.mk (by decide) (by decide) (by show c + 1 + 0 ≤ 601024; omega) (by show s + 6 + 0 ≤ 7293034; omega)) (Nat.le_of_ble_eq_true rfl) (fun o9 q9 hq9 => ?_)
  obtain ⟨b, M2, rfl, b9, rfl, r2, z2, f2⟩ := hq9
  have li : LI M2 L1 o m (if kdRep (E.2.2.2.2 (4 * j + 1)) (E.2.2.2.2 (4 * j + 2)) (E.2.2.2.2 (4 * j + 3)) = 0 then S else S) (T + 99) (B + 216000) := ⟨c1.outM (fun z q1 q2 => f2 z (by omega)), (by rw [ite_self]; exact r2), (by rw [ite_self]; exact hw.mono (by omega) (by omega))⟩
  show V E l _ _ (false, n, K, G, M2, L1) (c + 1, s + 6) 1319 _ [.int b]
  refine V_ist6 dL_law_1319 rfl (by decide) ?_
  refine V_ald2 dL_law_1321 ?_
  refine V_cv0R lk_L_104 cc_X6_thrown dL_law_1322 hm0 (c_X6_thrown hm0) (xFit.mk (by decide) (by decide) (by show c + 1 + 0 ≤ 601024; omega) (by show s + 6 + 0 ≤ 7293034; omega)) rfl rfl (Nat.le_of_ble_eq_true rfl) ?_
  rw [z2]
  refine V_ild5 dL_law_1325 ?_
  refine V_icmp_eq (tgt := 1332) dL_law_1327 (by decide) (fun h1327 => ?_) (fun h1327 => ?_)
  · refine V_ild5 dL_law_1332 ?_
    refine V_if_ne (tgt := 1349) dL_law_1334 (by decide) (fun h1334 => ?_) (fun h1334 => ?_)
    · refine V_goto (tgt := 1720) dL_law_1349 (by decide) ?_
      exact next _ _ _ _ _ _ li
    · refine V_ald3 dL_law_1337 ?_
      refine V_iconst (v := 0) dL_law_1338 (by decide) ?_
      refine V_lald (j := 0) dL_law_1339 (by assumption) (by decide) (by decide) ?_
      refine V_ild6 dL_law_1340 ?_
      refine V_i2l dL_law_1342 ?_
      refine V_lcmp dL_law_1343 ?_
      refine V_if_eq (tgt := 1349) dL_law_1344 (by decide) (fun h1344 => ?_) (fun h1344 => ?_)
      · refine V_goto (tgt := 1720) dL_law_1349 (by decide) ?_
        exact next _ _ _ _ _ _ li
      · exact absurd ((lg_cmp_eq _ _).mpr (by rw [a1 (nI_03 k3 h1334), b9 (nI_03 k3 h1334)])) h1344
  · exact absurd rfl h1327
theorem L_c_bestWindow (hl9 : l.stackTraces = false) (hx : rX n K G o) (hm : rM n K G m) (hu : xIs n K u 11 1) (s1 : o + 288 < m) (s2 : m + 7 < u) (hi : LI M L o m S T B) (t1 : 10000 ≤ T) (t2 : T ≤ 240000) (b1 : 21600000 ≤ B) (b2 : B ≤ 200000000) (hcc : c + 1 ≤ 601024) (hss : s + 6 ≤ 7293034) (hj : 4 * j + 4 ≤ E.2.2.2.1) (hN : E.2.2.2.1 ≤ 2048)
    (next : ∀ M' L' S' o5 o6 o7, LI M' L' o m S' (T + 99) (B + 216000) → V E l Y_L_law Q (false, n, K, G, M', L') (c + 1, s + 6) 1720 [some (.ref 2), some (.ref o), some (.ref m), some (.ref u), some (.int (nI (4 * j))), o5, o6, o7] []) (o5 o6 o7 : Option Value) :
    V E l Y_L_law Q (false, n, K, G, M, L) (c, s) 1352 [some (.ref 2), some (.ref o), some (.ref m), some (.ref u), some (.int (nI (4 * j))), o5, o6, o7] [] := by
  obtain ⟨hc, hr, hw⟩ := hi
  have hx0 := hx.1
  have hm0 := hm.1
  refine V_ald1 dL_law_1352 ?_
  refine V_ald0 dL_law_1353 ?_
  refine V_ild4 dL_law_1354 ?_
  refine V_iconst (v := 1) dL_law_1356 (by decide) ?_
  refine V_iadd dL_law_1357 ?_
  refine V_ro2 (j := 4 * j + 1) (nI_add (4 * j) 1) (by omega) (by omega) dL_law_1358 ?_
  refine V_ald3 dL_law_1359 ?_
  refine V_csH (Y' := Y_L_bestWindow) (As := [.ref o, .int (E.2.2.2.2 (4 * j + 1)), .ref u]) (rest := []) ml_L_181 (List.cons_ne_nil _ _) mc_L_bestWindow mi_L hn_L_bestWindow mt_L_bestWindow dL_law_1360 (c_L_bestWindow hx hu (Or.inr (by omega)) hc _ (c_X5_bestWindow hl9 hx hc hw (by omega) _)) (xFit.mk (by decide) (by decide) hcc hss) (Nat.le_of_ble_eq_true rfl) (fun o9 q9 hq9 => ?_)
  obtain ⟨x9, M1, L1, rfl, rfl, c1, f1, a1, k3⟩ := hq9
  refine V_loose ?_
  have r1 : MRel M1 m S := hr.cong (fun z q1 q2 => (f1 z (by omega) (by omega)).1)
  show V E l _ _ (false, n, K, G, M1, L1) (c + 1, s + 6) 1363 _ [.int (nI (kdO (E.2.2.2.2 (4 * j + 1)) 0 2))]
  refine V_ist5 dL_law_1363 rfl (by decide) ?_
  refine V_ald2 dL_law_1365 ?_
  refine V_ald0 dL_law_1366 ?_
  refine V_ild4 dL_law_1367 ?_
  refine V_iconst (v := 1) dL_law_1369 (by decide) ?_
  refine V_iadd dL_law_1370 ?_
  refine V_ro2 (j := 4 * j + 1) (nI_add (4 * j) 1) (by omega) (by omega) dL_law_1371 ?_
  refine V_cv1P lk_L_183 cc_X6_bestWindow dL_law_1372 hm0 (c_X6_bestWindow hm r1 hw.1 (by omega) _) (xFit.mk (by decide) (by decide) (by show c + 1 + 0 ≤ 601024; omega) (by show s + 6 + 0 ≤ 7293034; omega)) (Nat.le_of_ble_eq_true rfl) (fun o9 q9 hq9 => ?_)
  obtain ⟨b, M2, rfl, b9, rfl, r2, z2, f2⟩ := hq9
  have li : LI M2 L1 o m (if kdO (E.2.2.2.2 (4 * j + 1)) 0 2 = 0 then S else S) (T + 99) (B + 216000) := ⟨c1.outM (fun z q1 q2 => f2 z (by omega)), (by rw [ite_self]; exact r2), (by rw [ite_self]; exact hw.mono (by omega) (by omega))⟩
  show V E l _ _ (false, n, K, G, M2, L1) (c + 1, s + 6) 1375 _ [.int b]
  refine V_ist6 dL_law_1375 rfl (by decide) ?_
  refine V_ald2 dL_law_1377 ?_
  refine V_cv0R lk_L_104 cc_X6_thrown dL_law_1378 hm0 (c_X6_thrown hm0) (xFit.mk (by decide) (by decide) (by show c + 1 + 0 ≤ 601024; omega) (by show s + 6 + 0 ≤ 7293034; omega)) rfl rfl (Nat.le_of_ble_eq_true rfl) ?_
  rw [z2]
  refine V_ild5 dL_law_1381 ?_
  refine V_icmp_eq (tgt := 1388) dL_law_1383 (by decide) (fun h1383 => ?_) (fun h1383 => ?_)
  · refine V_ild5 dL_law_1388 ?_
    refine V_if_ne (tgt := 1405) dL_law_1390 (by decide) (fun h1390 => ?_) (fun h1390 => ?_)
    · refine V_goto (tgt := 1720) dL_law_1405 (by decide) ?_
      exact next _ _ _ _ _ _ li
    · refine V_ald3 dL_law_1393 ?_
      refine V_iconst (v := 0) dL_law_1394 (by decide) ?_
      refine V_lald (j := 0) dL_law_1395 (by assumption) (by decide) (by decide) ?_
      refine V_ild6 dL_law_1396 ?_
      refine V_i2l dL_law_1398 ?_
      refine V_lcmp dL_law_1399 ?_
      refine V_if_eq (tgt := 1405) dL_law_1400 (by decide) (fun h1400 => ?_) (fun h1400 => ?_)
      · refine V_goto (tgt := 1720) dL_law_1405 (by decide) ?_
        exact next _ _ _ _ _ _ li
      · exact absurd ((lg_cmp_eq _ _).mpr (by rw [a1 (nI_03 k3 h1390), b9 (nI_03 k3 h1390)])) h1400
  · exact absurd rfl h1383
theorem L_c_runScript (hl9 : l.stackTraces = false) (hx : rX n K G o) (hm : rM n K G m) (hu : xIs n K u 11 1) (s1 : o + 288 < m) (s2 : m + 7 < u) (hi : LI M L o m S T B) (t1 : 10000 ≤ T) (t2 : T ≤ 240000) (b1 : 21600000 ≤ B) (b2 : B ≤ 200000000) (hcc : c + 1 ≤ 601024) (hss : s + 6 ≤ 7293034) (hj : 4 * j + 4 ≤ E.2.2.2.1) (hN : E.2.2.2.1 ≤ 2048)
    (next : ∀ M' L' S' o5 o6 o7, LI M' L' o m S' (T + 99) (B + 216000) → V E l Y_L_law Q (false, n, K, G, M', L') (c + 1, s + 6) 1720 [some (.ref 2), some (.ref o), some (.ref m), some (.ref u), some (.int (nI (4 * j))), o5, o6, o7] []) (o5 o6 o7 : Option Value) :
    V E l Y_L_law Q (false, n, K, G, M, L) (c, s) 1408 [some (.ref 2), some (.ref o), some (.ref m), some (.ref u), some (.int (nI (4 * j))), o5, o6, o7] [] := by
  obtain ⟨hc, hr, hw⟩ := hi
  have hx0 := hx.1
  have hm0 := hm.1
  refine V_ald1 dL_law_1408 ?_
  refine V_ald0 dL_law_1409 ?_
  refine V_ild4 dL_law_1410 ?_
  refine V_iconst (v := 1) dL_law_1412 (by decide) ?_
  refine V_iadd dL_law_1413 ?_
  refine V_ro2 (j := 4 * j + 1) (nI_add (4 * j) 1) (by omega) (by omega) dL_law_1414 ?_
  refine V_ald0 dL_law_1415 ?_
  refine V_ild4 dL_law_1416 ?_
  refine V_iconst (v := 2) dL_law_1418 (by decide) ?_
  refine V_iadd dL_law_1419 ?_
  refine V_ro2 (j := 4 * j + 2) (nI_add (4 * j) 2) (by omega) (by omega) dL_law_1420 ?_
  refine V_i2l dL_law_1421 ?_
  refine V_bipush (v := 32) dL_law_1422 (by decide) ?_
  refine V_lshl dL_law_1424 ?_
  refine V_ald0 dL_law_1425 ?_
  refine V_ild4 dL_law_1426 ?_
  refine V_iconst (v := 3) dL_law_1428 (by decide) ?_
  refine V_iadd dL_law_1429 ?_
  refine V_ro2 (j := 4 * j + 3) (nI_add (4 * j) 3) (by omega) (by omega) dL_law_1430 ?_
  refine V_i2l dL_law_1431 ?_
  refine V_ldc2 dL_law_1432 mk_L_184 ?_
  refine V_land dL_law_1435 ?_
  refine V_lor dL_law_1436 ?_
  generalize hsg : ((Int32.toInt64 (E.2.2.2.2 (4 * j + 2)) <<< (Int32.toInt64 32 &&& 63)) ||| (Int32.toInt64 (E.2.2.2.2 (4 * j + 3)) &&& 4294967295)) = sg
  refine V_ald3 dL_law_1437 ?_
  refine V_csH (Y' := Y_L_runScript) (As := [.ref o, .int (E.2.2.2.2 (4 * j + 1)), .long sg, .ref u]) (rest := []) ml_L_186 (List.cons_ne_nil _ _) mc_L_runScript mi_L hn_L_runScript mt_L_runScript dL_law_1438 (c_L_runScript hx hu (Or.inr (by omega)) hc _ _ (c_X5_runScript hl9 hx hc hw (by omega) (by omega) _ _)) (xFit.mk (by decide) (by decide) hcc hss) (Nat.le_of_ble_eq_true rfl) (fun o9 q9 hq9 => ?_)
  obtain ⟨x9, M1, L1, rfl, rfl, c1, f1, a1, k3⟩ := hq9
  refine V_loose ?_
  have r1 : MRel M1 m S := hr.cong (fun z q1 q2 => (f1 z (by omega) (by omega)).1)
  show V E l _ _ (false, n, K, G, M1, L1) (c + 1, s + 6) 1441 _ [.int (nI (kdScr (E.2.2.2.2 (4 * j + 1)) sg))]
  refine V_ist5 dL_law_1441 rfl (by decide) ?_
  refine V_ald2 dL_law_1443 ?_
  refine V_ald0 dL_law_1444 ?_
  refine V_ild4 dL_law_1445 ?_
  refine V_iconst (v := 1) dL_law_1447 (by decide) ?_
  refine V_iadd dL_law_1448 ?_
  refine V_ro2 (j := 4 * j + 1) (nI_add (4 * j) 1) (by omega) (by omega) dL_law_1449 ?_
  refine V_ald0 dL_law_1450 ?_
  refine V_ild4 dL_law_1451 ?_
  refine V_iconst (v := 2) dL_law_1453 (by decide) ?_
  refine V_iadd dL_law_1454 ?_
  refine V_ro2 (j := 4 * j + 2) (nI_add (4 * j) 2) (by omega) (by omega) dL_law_1455 ?_
  refine V_i2l dL_law_1456 ?_
  refine V_bipush (v := 32) dL_law_1457 (by decide) ?_
  refine V_lshl dL_law_1459 ?_
  refine V_ald0 dL_law_1460 ?_
  refine V_ild4 dL_law_1461 ?_
  refine V_iconst (v := 3) dL_law_1463 (by decide) ?_
  refine V_iadd dL_law_1464 ?_
  refine V_ro2 (j := 4 * j + 3) (nI_add (4 * j) 3) (by omega) (by omega) dL_law_1465 ?_
  refine V_i2l dL_law_1466 ?_
  refine V_ldc2 dL_law_1467 mk_L_184 ?_
  refine V_land dL_law_1470 ?_
  refine V_lor dL_law_1471 ?_
  rw [hsg]
  refine V_cv2P lk_L_189 cc_X6_runScript dL_law_1472 hm0 (c_X6_runScript hm r1 hw.1 (by omega) (by omega) _ _) (xFit.mk (by decide) (by decide) (by show c + 1 + 0 ≤ 601024; omega) (by show s + 6 + 0 ≤ 7293034; omega)) (Nat.le_of_ble_eq_true rfl) (fun o9 q9 hq9 => ?_)
  obtain ⟨b, M2, rfl, b9, rfl, r2, z2, f2⟩ := hq9
  have li : LI M2 L1 o m (if kdScr (E.2.2.2.2 (4 * j + 1)) sg = 0 then S else S) (T + 99) (B + 216000) := ⟨c1.outM (fun z q1 q2 => f2 z (by omega)), (by rw [ite_self]; exact r2), (by rw [ite_self]; exact hw.mono (by omega) (by omega))⟩
  show V E l _ _ (false, n, K, G, M2, L1) (c + 1, s + 6) 1475 _ [.int b]
  refine V_ist6 dL_law_1475 rfl (by decide) ?_
  refine V_ald2 dL_law_1477 ?_
  refine V_cv0R lk_L_104 cc_X6_thrown dL_law_1478 hm0 (c_X6_thrown hm0) (xFit.mk (by decide) (by decide) (by show c + 1 + 0 ≤ 601024; omega) (by show s + 6 + 0 ≤ 7293034; omega)) rfl rfl (Nat.le_of_ble_eq_true rfl) ?_
  rw [z2]
  refine V_ild5 dL_law_1481 ?_
  refine V_icmp_eq (tgt := 1488) dL_law_1483 (by decide) (fun h1483 => ?_) (fun h1483 => ?_)
  · refine V_ild5 dL_law_1488 ?_
    refine V_if_ne (tgt := 1505) dL_law_1490 (by decide) (fun h1490 => ?_) (fun h1490 => ?_)
    · refine V_goto (tgt := 1720) dL_law_1505 (by decide) ?_
      exact next _ _ _ _ _ _ li
    · refine V_ald3 dL_law_1493 ?_
      refine V_iconst (v := 0) dL_law_1494 (by decide) ?_
      refine V_lald (j := 0) dL_law_1495 (by assumption) (by decide) (by decide) ?_
      refine V_ild6 dL_law_1496 ?_
      refine V_i2l dL_law_1498 ?_
      refine V_lcmp dL_law_1499 ?_
      refine V_if_eq (tgt := 1505) dL_law_1500 (by decide) (fun h1500 => ?_) (fun h1500 => ?_)
      · refine V_goto (tgt := 1720) dL_law_1505 (by decide) ?_
        exact next _ _ _ _ _ _ li
      · exact absurd ((lg_cmp_eq _ _).mpr (by rw [a1 (nI_03 k3 h1490), b9 (nI_03 k3 h1490)])) h1500
  · exact absurd rfl h1483
theorem L_c_simulate (hl9 : l.stackTraces = false) (hx : rX n K G o) (hm : rM n K G m) (hu : xIs n K u 11 1) (s1 : o + 288 < m) (s2 : m + 7 < u) (hi : LI M L o m S T B) (t1 : 10000 ≤ T) (t2 : T ≤ 240000) (b1 : 21600000 ≤ B) (b2 : B ≤ 200000000) (hcc : c + 1 ≤ 601024) (hss : s + 6 ≤ 7293034) (hj : 4 * j + 4 ≤ E.2.2.2.1) (hN : E.2.2.2.1 ≤ 2048)
    (next : ∀ M' L' S' o5 o6 o7, LI M' L' o m S' (T + 99) (B + 216000) → V E l Y_L_law Q (false, n, K, G, M', L') (c + 1, s + 6) 1720 [some (.ref 2), some (.ref o), some (.ref m), some (.ref u), some (.int (nI (4 * j))), o5, o6, o7] []) (o5 o6 o7 : Option Value) :
    V E l Y_L_law Q (false, n, K, G, M, L) (c, s) 1508 [some (.ref 2), some (.ref o), some (.ref m), some (.ref u), some (.int (nI (4 * j))), o5, o6, o7] [] := by
  obtain ⟨hc, hr, hw⟩ := hi
  have hx0 := hx.1
  have hm0 := hm.1
  refine V_ald1 dL_law_1508 ?_
  refine V_ald0 dL_law_1509 ?_
  refine V_ild4 dL_law_1510 ?_
  refine V_iconst (v := 1) dL_law_1512 (by decide) ?_
  refine V_iadd dL_law_1513 ?_
  refine V_ro2 (j := 4 * j + 1) (nI_add (4 * j) 1) (by omega) (by omega) dL_law_1514 ?_
  refine V_i2l dL_law_1515 ?_
  refine V_bipush (v := 32) dL_law_1516 (by decide) ?_
  refine V_lshl dL_law_1518 ?_
  refine V_ald0 dL_law_1519 ?_
  refine V_ild4 dL_law_1520 ?_
  refine V_iconst (v := 2) dL_law_1522 (by decide) ?_
  refine V_iadd dL_law_1523 ?_
  refine V_ro2 (j := 4 * j + 2) (nI_add (4 * j) 2) (by omega) (by omega) dL_law_1524 ?_
  refine V_i2l dL_law_1525 ?_
  refine V_ldc2 dL_law_1526 mk_L_184 ?_
  refine V_land dL_law_1529 ?_
  refine V_lor dL_law_1530 ?_
  generalize hsg : ((Int32.toInt64 (E.2.2.2.2 (4 * j + 1)) <<< (Int32.toInt64 32 &&& 63)) ||| (Int32.toInt64 (E.2.2.2.2 (4 * j + 2)) &&& 4294967295)) = sg
  refine V_ald0 dL_law_1531 ?_
  refine V_ild4 dL_law_1532 ?_
  refine V_iconst (v := 3) dL_law_1534 (by decide) ?_
  refine V_iadd dL_law_1535 ?_
  refine V_ro2 (j := 4 * j + 3) (nI_add (4 * j) 3) (by omega) (by omega) dL_law_1536 ?_
  refine V_ald3 dL_law_1537 ?_
  refine V_csH (Y' := Y_L_simulate) (As := [.ref o, .long sg, .int (E.2.2.2.2 (4 * j + 3)), .ref u]) (rest := []) ml_L_190 (List.cons_ne_nil _ _) mc_L_simulate mi_L hn_L_simulate mt_L_simulate dL_law_1538 (c_L_simulate hx hu (Or.inr (by omega)) hc _ _ (c_X5_simulate hl9 hx hc hw (by omega) (by omega) _ _)) (xFit.mk (by decide) (by decide) hcc hss) (Nat.le_of_ble_eq_true rfl) (fun o9 q9 hq9 => ?_)
  obtain ⟨x9, M1, L1, rfl, rfl, c1, f1, a1, k3⟩ := hq9
  refine V_loose ?_
  have r1 : MRel M1 m S := hr.cong (fun z q1 q2 => (f1 z (by omega) (by omega)).1)
  show V E l _ _ (false, n, K, G, M1, L1) (c + 1, s + 6) 1541 _ [.int (nI (kdO (E.2.2.2.2 (4 * j + 3)) 1 99))]
  refine V_ist5 dL_law_1541 rfl (by decide) ?_
  refine V_ald2 dL_law_1543 ?_
  refine V_ald0 dL_law_1544 ?_
  refine V_ild4 dL_law_1545 ?_
  refine V_iconst (v := 1) dL_law_1547 (by decide) ?_
  refine V_iadd dL_law_1548 ?_
  refine V_ro2 (j := 4 * j + 1) (nI_add (4 * j) 1) (by omega) (by omega) dL_law_1549 ?_
  refine V_i2l dL_law_1550 ?_
  refine V_bipush (v := 32) dL_law_1551 (by decide) ?_
  refine V_lshl dL_law_1553 ?_
  refine V_ald0 dL_law_1554 ?_
  refine V_ild4 dL_law_1555 ?_
  refine V_iconst (v := 2) dL_law_1557 (by decide) ?_
  refine V_iadd dL_law_1558 ?_
  refine V_ro2 (j := 4 * j + 2) (nI_add (4 * j) 2) (by omega) (by omega) dL_law_1559 ?_
  refine V_i2l dL_law_1560 ?_
  refine V_ldc2 dL_law_1561 mk_L_184 ?_
  refine V_land dL_law_1564 ?_
  refine V_lor dL_law_1565 ?_
  rw [hsg]
  refine V_ald0 dL_law_1566 ?_
  refine V_ild4 dL_law_1567 ?_
  refine V_iconst (v := 3) dL_law_1569 (by decide) ?_
  refine V_iadd dL_law_1570 ?_
  refine V_ro2 (j := 4 * j + 3) (nI_add (4 * j) 3) (by omega) (by omega) dL_law_1571 ?_
  refine V_cv2P lk_L_193 cc_X6_simulate dL_law_1572 hm0 (c_X6_simulate hm r1 hw.1 (by omega) (by omega) _ _) (xFit.mk (by decide) (by decide) (by show c + 1 + 0 ≤ 601024; omega) (by show s + 6 + 0 ≤ 7293034; omega)) (Nat.le_of_ble_eq_true rfl) (fun o9 q9 hq9 => ?_)
  obtain ⟨b, M2, rfl, b9, rfl, r2, z2, f2⟩ := hq9
  have li : LI M2 L1 o m (if kdO (E.2.2.2.2 (4 * j + 3)) 1 99 = 0 then S else S) (T + 99) (B + 216000) := ⟨c1.outM (fun z q1 q2 => f2 z (by omega)), (by rw [ite_self]; exact r2), (by rw [ite_self]; exact hw.mono (by omega) (by omega))⟩
  show V E l _ _ (false, n, K, G, M2, L1) (c + 1, s + 6) 1575 _ [.int b]
  refine V_ist6 dL_law_1575 rfl (by decide) ?_
  refine V_ald2 dL_law_1577 ?_
  refine V_cv0R lk_L_104 cc_X6_thrown dL_law_1578 hm0 (c_X6_thrown hm0) (xFit.mk (by decide) (by decide) (by show c + 1 + 0 ≤ 601024; omega) (by show s + 6 + 0 ≤ 7293034; omega)) rfl rfl (Nat.le_of_ble_eq_true rfl) ?_
  rw [z2]
  refine V_ild5 dL_law_1581 ?_
  refine V_icmp_eq (tgt := 1588) dL_law_1583 (by decide) (fun h1583 => ?_) (fun h1583 => ?_)
  · refine V_ild5 dL_law_1588 ?_
    refine V_if_ne (tgt := 1605) dL_law_1590 (by decide) (fun h1590 => ?_) (fun h1590 => ?_)
    · refine V_goto (tgt := 1720) dL_law_1605 (by decide) ?_
      exact next _ _ _ _ _ _ li
    · refine V_ald3 dL_law_1593 ?_
      refine V_iconst (v := 0) dL_law_1594 (by decide) ?_
      refine V_lald (j := 0) dL_law_1595 (by assumption) (by decide) (by decide) ?_
      refine V_ild6 dL_law_1596 ?_
      refine V_i2l dL_law_1598 ?_
      refine V_lcmp dL_law_1599 ?_
      refine V_if_eq (tgt := 1605) dL_law_1600 (by decide) (fun h1600 => ?_) (fun h1600 => ?_)
      · refine V_goto (tgt := 1720) dL_law_1605 (by decide) ?_
        exact next _ _ _ _ _ _ li
      · exact absurd ((lg_cmp_eq _ _).mpr (by rw [a1 (nI_03 k3 h1590), b9 (nI_03 k3 h1590)])) h1600
  · exact absurd rfl h1583
theorem L_c_save (hl9 : l.stackTraces = false) (hx : rX n K G o) (hm : rM n K G m) (hu : xIs n K u 11 1) (s1 : o + 288 < m) (s2 : m + 7 < u) (hi : LI M L o m S T B) (t1 : 10000 ≤ T) (t2 : T ≤ 240000) (b1 : 21600000 ≤ B) (b2 : B ≤ 200000000) (hcc : c + 1 ≤ 601024) (hss : s + 6 ≤ 7293034) (hj : 4 * j + 4 ≤ E.2.2.2.1) (hN : E.2.2.2.1 ≤ 2048)
    (next : ∀ M' L' S' o5 o6 o7, LI M' L' o m S' (T + 99) (B + 216000) → V E l Y_L_law Q (false, n, K, G, M', L') (c + 1, s + 6) 1720 [some (.ref 2), some (.ref o), some (.ref m), some (.ref u), some (.int (nI (4 * j))), o5, o6, o7] []) (o5 o6 o7 : Option Value) :
    V E l Y_L_law Q (false, n, K, G, M, L) (c, s) 1608 [some (.ref 2), some (.ref o), some (.ref m), some (.ref u), some (.int (nI (4 * j))), o5, o6, o7] [] := by
  obtain ⟨hc, hr, hw⟩ := hi
  have hx0 := hx.1
  have hm0 := hm.1
  refine V_ald1 dL_law_1608 ?_
  refine V_ald0 dL_law_1609 ?_
  refine V_ild4 dL_law_1610 ?_
  refine V_iconst (v := 1) dL_law_1612 (by decide) ?_
  refine V_iadd dL_law_1613 ?_
  refine V_ro2 (j := 4 * j + 1) (nI_add (4 * j) 1) (by omega) (by omega) dL_law_1614 ?_
  refine V_ald3 dL_law_1615 ?_
  refine V_csH (Y' := Y_L_save) (As := [.ref o, .int (E.2.2.2.2 (4 * j + 1)), .ref u]) (rest := []) ml_L_194 (List.cons_ne_nil _ _) mc_L_save mi_L hn_L_save mt_L_save dL_law_1616 (c_L_save hx hu (Or.inr (by omega)) hc _ (c_X5_save hl9 hx hc hw _)) (xFit.mk (by decide) (by decide) hcc hss) (Nat.le_of_ble_eq_true rfl) (fun o9 q9 hq9 => ?_)
  obtain ⟨x9, M1, L1, rfl, rfl, c1, f1, a1, k3⟩ := hq9
  refine V_loose ?_
  have r1 : MRel M1 m S := hr.cong (fun z q1 q2 => (f1 z (by omega) (by omega)).1)
  show V E l _ _ (false, n, K, G, M1, L1) (c + 1, s + 6) 1619 _ [.int (nI (kdO (E.2.2.2.2 (4 * j + 1)) 0 1))]
  refine V_ist5 dL_law_1619 rfl (by decide) ?_
  refine V_ald2 dL_law_1621 ?_
  refine V_ald0 dL_law_1622 ?_
  refine V_ild4 dL_law_1623 ?_
  refine V_iconst (v := 1) dL_law_1625 (by decide) ?_
  refine V_iadd dL_law_1626 ?_
  refine V_ro2 (j := 4 * j + 1) (nI_add (4 * j) 1) (by omega) (by omega) dL_law_1627 ?_
  refine V_cv1P lk_L_196 cc_X6_save dL_law_1628 hm0 (c_X6_save hm r1 _) (xFit.mk (by decide) (by decide) (by show c + 1 + 0 ≤ 601024; omega) (by show s + 6 + 0 ≤ 7293034; omega)) (Nat.le_of_ble_eq_true rfl) (fun o9 q9 hq9 => ?_)
  obtain ⟨b, M2, rfl, b9, rfl, r2, z2, f2⟩ := hq9
  have li : LI M2 L1 o m (if kdO (E.2.2.2.2 (4 * j + 1)) 0 1 = 0 then sKeep S (Int32.toNatClampNeg (E.2.2.2.2 (4 * j + 1))) else S) (T + 99) (B + 216000) := ⟨c1.outM (fun z q1 q2 => f2 z (by omega)), r2, W_if (fun k0 => W_keep hw _) (hw.mono (by omega) (by omega))⟩
  show V E l _ _ (false, n, K, G, M2, L1) (c + 1, s + 6) 1631 _ [.int b]
  refine V_ist6 dL_law_1631 rfl (by decide) ?_
  refine V_ald2 dL_law_1633 ?_
  refine V_cv0R lk_L_104 cc_X6_thrown dL_law_1634 hm0 (c_X6_thrown hm0) (xFit.mk (by decide) (by decide) (by show c + 1 + 0 ≤ 601024; omega) (by show s + 6 + 0 ≤ 7293034; omega)) rfl rfl (Nat.le_of_ble_eq_true rfl) ?_
  rw [z2]
  refine V_ild5 dL_law_1637 ?_
  refine V_icmp_eq (tgt := 1644) dL_law_1639 (by decide) (fun h1639 => ?_) (fun h1639 => ?_)
  · refine V_ild5 dL_law_1644 ?_
    refine V_if_ne (tgt := 1661) dL_law_1646 (by decide) (fun h1646 => ?_) (fun h1646 => ?_)
    · refine V_goto (tgt := 1720) dL_law_1661 (by decide) ?_
      exact next _ _ _ _ _ _ li
    · refine V_ald3 dL_law_1649 ?_
      refine V_iconst (v := 0) dL_law_1650 (by decide) ?_
      refine V_lald (j := 0) dL_law_1651 (by assumption) (by decide) (by decide) ?_
      refine V_ild6 dL_law_1652 ?_
      refine V_i2l dL_law_1654 ?_
      refine V_lcmp dL_law_1655 ?_
      refine V_if_eq (tgt := 1661) dL_law_1656 (by decide) (fun h1656 => ?_) (fun h1656 => ?_)
      · refine V_goto (tgt := 1720) dL_law_1661 (by decide) ?_
        exact next _ _ _ _ _ _ li
      · exact absurd ((lg_cmp_eq _ _).mpr (by rw [a1 (nI_03 k3 h1646), b9 (nI_03 k3 h1646)])) h1656
  · exact absurd rfl h1639
theorem L_c_restore (hl9 : l.stackTraces = false) (hx : rX n K G o) (hm : rM n K G m) (hu : xIs n K u 11 1) (s1 : o + 288 < m) (s2 : m + 7 < u) (hi : LI M L o m S T B) (t1 : 10000 ≤ T) (t2 : T ≤ 240000) (b1 : 21600000 ≤ B) (b2 : B ≤ 200000000) (hcc : c + 1 ≤ 601024) (hss : s + 6 ≤ 7293034) (hj : 4 * j + 4 ≤ E.2.2.2.1) (hN : E.2.2.2.1 ≤ 2048)
    (next : ∀ M' L' S' o5 o6 o7, LI M' L' o m S' (T + 99) (B + 216000) → V E l Y_L_law Q (false, n, K, G, M', L') (c + 1, s + 6) 1720 [some (.ref 2), some (.ref o), some (.ref m), some (.ref u), some (.int (nI (4 * j))), o5, o6, o7] []) (o5 o6 o7 : Option Value) :
    V E l Y_L_law Q (false, n, K, G, M, L) (c, s) 1664 [some (.ref 2), some (.ref o), some (.ref m), some (.ref u), some (.int (nI (4 * j))), o5, o6, o7] [] := by
  obtain ⟨hc, hr, hw⟩ := hi
  have hx0 := hx.1
  have hm0 := hm.1
  refine V_ald1 dL_law_1664 ?_
  refine V_ald0 dL_law_1665 ?_
  refine V_ild4 dL_law_1666 ?_
  refine V_iconst (v := 1) dL_law_1668 (by decide) ?_
  refine V_iadd dL_law_1669 ?_
  refine V_ro2 (j := 4 * j + 1) (nI_add (4 * j) 1) (by omega) (by omega) dL_law_1670 ?_
  refine V_ald3 dL_law_1671 ?_
  refine V_csH (Y' := Y_L_restore) (As := [.ref o, .int (E.2.2.2.2 (4 * j + 1)), .ref u]) (rest := []) ml_L_197 (List.cons_ne_nil _ _) mc_L_restore mi_L hn_L_restore mt_L_restore dL_law_1672 (c_L_restore hx hu (Or.inr (by omega)) hc _ (c_X5_restore hl9 hx hc hw _)) (xFit.mk (by decide) (by decide) hcc hss) (Nat.le_of_ble_eq_true rfl) (fun o9 q9 hq9 => ?_)
  obtain ⟨x9, M1, L1, rfl, rfl, c1, f1, a1, k3⟩ := hq9
  refine V_loose ?_
  have r1 : MRel M1 m S := hr.cong (fun z q1 q2 => (f1 z (by omega) (by omega)).1)
  show V E l _ _ (false, n, K, G, M1, L1) (c + 1, s + 6) 1675 _ [.int (nI (kdRes S (E.2.2.2.2 (4 * j + 1))))]
  refine V_ist5 dL_law_1675 rfl (by decide) ?_
  refine V_ald2 dL_law_1677 ?_
  refine V_ald0 dL_law_1678 ?_
  refine V_ild4 dL_law_1679 ?_
  refine V_iconst (v := 1) dL_law_1681 (by decide) ?_
  refine V_iadd dL_law_1682 ?_
  refine V_ro2 (j := 4 * j + 1) (nI_add (4 * j) 1) (by omega) (by omega) dL_law_1683 ?_
  refine V_cv1P lk_L_199 cc_X6_restore dL_law_1684 hm0 (c_X6_restore hm r1 _) (xFit.mk (by decide) (by decide) (by show c + 1 + 0 ≤ 601024; omega) (by show s + 6 + 0 ≤ 7293034; omega)) (Nat.le_of_ble_eq_true rfl) (fun o9 q9 hq9 => ?_)
  obtain ⟨b, M2, rfl, b9, rfl, r2, z2, f2⟩ := hq9
  have li : LI M2 L1 o m (if kdRes S (E.2.2.2.2 (4 * j + 1)) = 0 then sBack S (Int32.toNatClampNeg (E.2.2.2.2 (4 * j + 1))) else S) (T + 99) (B + 216000) := ⟨c1.outM (fun z q1 q2 => f2 z (by omega)), r2, W_if (fun k0 => W_back hw k0) (hw.mono (by omega) (by omega))⟩
  show V E l _ _ (false, n, K, G, M2, L1) (c + 1, s + 6) 1687 _ [.int b]
  refine V_ist6 dL_law_1687 rfl (by decide) ?_
  refine V_ald2 dL_law_1689 ?_
  refine V_cv0R lk_L_104 cc_X6_thrown dL_law_1690 hm0 (c_X6_thrown hm0) (xFit.mk (by decide) (by decide) (by show c + 1 + 0 ≤ 601024; omega) (by show s + 6 + 0 ≤ 7293034; omega)) rfl rfl (Nat.le_of_ble_eq_true rfl) ?_
  rw [z2]
  refine V_ild5 dL_law_1693 ?_
  refine V_icmp_eq (tgt := 1700) dL_law_1695 (by decide) (fun h1695 => ?_) (fun h1695 => ?_)
  · refine V_ild5 dL_law_1700 ?_
    refine V_if_ne (tgt := 1717) dL_law_1702 (by decide) (fun h1702 => ?_) (fun h1702 => ?_)
    · refine V_goto (tgt := 1720) dL_law_1717 (by decide) ?_
      exact next _ _ _ _ _ _ li
    · refine V_ald3 dL_law_1705 ?_
      refine V_iconst (v := 0) dL_law_1706 (by decide) ?_
      refine V_lald (j := 0) dL_law_1707 (by assumption) (by decide) (by decide) ?_
      refine V_ild6 dL_law_1708 ?_
      refine V_i2l dL_law_1710 ?_
      refine V_lcmp dL_law_1711 ?_
      refine V_if_eq (tgt := 1717) dL_law_1712 (by decide) (fun h1712 => ?_) (fun h1712 => ?_)
      · refine V_goto (tgt := 1720) dL_law_1717 (by decide) ?_
        exact next _ _ _ _ _ _ li
      · exact absurd ((lg_cmp_eq _ _).mpr (by rw [a1 (nI_03 k3 h1702), b9 (nI_03 k3 h1702)])) h1712
  · exact absurd rfl h1695
end C78

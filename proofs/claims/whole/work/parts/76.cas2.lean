/-! ===== the law: its cases: pulse, fate, longest, pattern, rain, trueRain, drop ===== -/
section C76
variable {E : xEnv} {l : Launch} {Q : xQ} {n o m u j c s T B : Nat} {K : xKnd} {G : xRef} {M : xMem} {L : xLng} {S : xSp}
theorem L_c_pulse (hl9 : l.stackTraces = false) (hx : rX n K G o) (hm : rM n K G m) (hu : xIs n K u 11 1) (s1 : o + 288 < m) (s2 : m + 7 < u) (hi : LI M L o m S T B) (t1 : 10000 ≤ T) (t2 : T ≤ 240000) (b1 : 21600000 ≤ B) (b2 : B ≤ 200000000) (hcc : c + 1 ≤ 601024) (hss : s + 6 ≤ 7293034) (hj : 4 * j + 4 ≤ E.2.2.2.1) (hN : E.2.2.2.1 ≤ 2048)
    (next : ∀ M' L' S' o5 o6 o7, LI M' L' o m S' (T + 99) (B + 216000) → V E l Y_L_law Q (false, n, K, G, M', L') (c + 1, s + 6) 1720 [some (.ref 2), some (.ref o), some (.ref m), some (.ref u), some (.int (nI (4 * j))), o5, o6, o7] []) (o5 o6 o7 : Option Value) :
    V E l Y_L_law Q (false, n, K, G, M, L) (c, s) 470 [some (.ref 2), some (.ref o), some (.ref m), some (.ref u), some (.int (nI (4 * j))), o5, o6, o7] [] := by
  obtain ⟨hc, hr, hw⟩ := hi
  have hx0 := hx.1
  have hm0 := hm.1
  refine V_ald1 dL_law_470 ?_
  refine V_ald0 dL_law_471 ?_
  refine V_ild4 dL_law_472 ?_
  refine V_iconst (v := 1) dL_law_474 (by decide) ?_
  refine V_iadd dL_law_475 ?_
  refine V_ro2 (j := 4 * j + 1) (nI_add (4 * j) 1) (by omega) (by omega) dL_law_476 ?_
  refine V_ald3 dL_law_477 ?_
  refine V_csH (Y' := Y_L_pulse) (As := [.ref o, .int (E.2.2.2.2 (4 * j + 1)), .ref u]) (rest := []) ml_L_129 (List.cons_ne_nil _ _) mc_L_pulse mi_L hn_L_pulse mt_L_pulse dL_law_478 (c_L_pulse hx hu (Or.inr (by omega)) hc _ ((c_X5_pulse hl9 hx hc hw _).weak (xW_G hc) (fun _ _ q => q))) (xFit.mk (by decide) (by decide) hcc hss) (Nat.le_of_ble_eq_true rfl) (fun o9 q9 hq9 => ?_)
  obtain ⟨x9, M1, L1, rfl, rfl, c1, f1, a1, k3⟩ := hq9
  refine V_loose ?_
  have r1 : MRel M1 m S := hr.cong (fun z q1 q2 => (f1 z (by omega) (by omega)).1)
  show V E l _ _ (false, n, K, G, M1, L1) (c + 1, s + 6) 481 _ [.int (nI (kdO (E.2.2.2.2 (4 * j + 1)) 0 3))]
  refine V_ist5 dL_law_481 rfl (by decide) ?_
  refine V_ald2 dL_law_483 ?_
  refine V_ald0 dL_law_484 ?_
  refine V_ild4 dL_law_485 ?_
  refine V_iconst (v := 1) dL_law_487 (by decide) ?_
  refine V_iadd dL_law_488 ?_
  refine V_ro2 (j := 4 * j + 1) (nI_add (4 * j) 1) (by omega) (by omega) dL_law_489 ?_
  refine V_cv1P lk_L_131 cc_X6_pulse dL_law_490 hm0 (c_X6_pulse hm r1 _) (xFit.mk (by decide) (by decide) (by show c + 1 + 0 ≤ 601024; omega) (by show s + 6 + 0 ≤ 7293034; omega)) (Nat.le_of_ble_eq_true rfl) (fun o9 q9 hq9 => ?_)
  obtain ⟨b, M2, rfl, b9, rfl, r2, z2, f2⟩ := hq9
  have li : LI M2 L1 o m (if kdO (E.2.2.2.2 (4 * j + 1)) 0 3 = 0 then S else S) (T + 99) (B + 216000) := ⟨c1.outM (fun z q1 q2 => f2 z (by omega)), (by rw [ite_self]; exact r2), (by rw [ite_self]; exact hw.mono (by omega) (by omega))⟩
  show V E l _ _ (false, n, K, G, M2, L1) (c + 1, s + 6) 493 _ [.int b]
  refine V_ist6 dL_law_493 rfl (by decide) ?_
  refine V_ald2 dL_law_495 ?_
  refine V_cv0R lk_L_104 cc_X6_thrown dL_law_496 hm0 (c_X6_thrown hm0) (xFit.mk (by decide) (by decide) (by show c + 1 + 0 ≤ 601024; omega) (by show s + 6 + 0 ≤ 7293034; omega)) rfl rfl (Nat.le_of_ble_eq_true rfl) ?_
  rw [z2]
  refine V_ild5 dL_law_499 ?_
  refine V_icmp_eq (tgt := 506) dL_law_501 (by decide) (fun h501 => ?_) (fun h501 => ?_)
  · refine V_ild5 dL_law_506 ?_
    refine V_if_ne (tgt := 523) dL_law_508 (by decide) (fun h508 => ?_) (fun h508 => ?_)
    · refine V_goto (tgt := 1720) dL_law_523 (by decide) ?_
      exact next _ _ _ _ _ _ li
    · refine V_ald3 dL_law_511 ?_
      refine V_iconst (v := 0) dL_law_512 (by decide) ?_
      refine V_lald (j := 0) dL_law_513 (by assumption) (by decide) (by decide) ?_
      refine V_ild6 dL_law_514 ?_
      refine V_i2l dL_law_516 ?_
      refine V_lcmp dL_law_517 ?_
      refine V_if_eq (tgt := 523) dL_law_518 (by decide) (fun h518 => ?_) (fun h518 => ?_)
      · refine V_goto (tgt := 1720) dL_law_523 (by decide) ?_
        exact next _ _ _ _ _ _ li
      · exact absurd ((lg_cmp_eq _ _).mpr (by rw [a1 (nI_03 k3 h508), b9 (nI_03 k3 h508)])) h518
  · exact absurd rfl h501
theorem L_c_fate (hl9 : l.stackTraces = false) (hx : rX n K G o) (hm : rM n K G m) (hu : xIs n K u 11 1) (s1 : o + 288 < m) (s2 : m + 7 < u) (hi : LI M L o m S T B) (t1 : 10000 ≤ T) (t2 : T ≤ 240000) (b1 : 21600000 ≤ B) (b2 : B ≤ 200000000) (hcc : c + 1 ≤ 601024) (hss : s + 6 ≤ 7293034) (hj : 4 * j + 4 ≤ E.2.2.2.1) (hN : E.2.2.2.1 ≤ 2048)
    (next : ∀ M' L' S' o5 o6 o7, LI M' L' o m S' (T + 99) (B + 216000) → V E l Y_L_law Q (false, n, K, G, M', L') (c + 1, s + 6) 1720 [some (.ref 2), some (.ref o), some (.ref m), some (.ref u), some (.int (nI (4 * j))), o5, o6, o7] []) (o5 o6 o7 : Option Value) :
    V E l Y_L_law Q (false, n, K, G, M, L) (c, s) 526 [some (.ref 2), some (.ref o), some (.ref m), some (.ref u), some (.int (nI (4 * j))), o5, o6, o7] [] := by
  obtain ⟨hc, hr, hw⟩ := hi
  have hx0 := hx.1
  have hm0 := hm.1
  refine V_ald1 dL_law_526 ?_
  refine V_ald0 dL_law_527 ?_
  refine V_ild4 dL_law_528 ?_
  refine V_iconst (v := 1) dL_law_530 (by decide) ?_
  refine V_iadd dL_law_531 ?_
  refine V_ro2 (j := 4 * j + 1) (nI_add (4 * j) 1) (by omega) (by omega) dL_law_532 ?_
  refine V_ald3 dL_law_533 ?_
  refine V_csH (Y' := Y_L_fate) (As := [.ref o, .int (E.2.2.2.2 (4 * j + 1)), .ref u]) (rest := []) ml_L_132 (List.cons_ne_nil _ _) mc_L_fate mi_L hn_L_fate mt_L_fate dL_law_534 (c_L_fate hx hu (Or.inr (by omega)) hc _ ((c_X5_fate hl9 hx hc _).weak (xW_G hc) (fun _ _ q => q))) (xFit.mk (by decide) (by decide) hcc hss) (Nat.le_of_ble_eq_true rfl) (fun o9 q9 hq9 => ?_)
  obtain ⟨x9, M1, L1, rfl, rfl, c1, f1, a1, k3⟩ := hq9
  refine V_loose ?_
  have r1 : MRel M1 m S := hr.cong (fun z q1 q2 => (f1 z (by omega) (by omega)).1)
  show V E l _ _ (false, n, K, G, M1, L1) (c + 1, s + 6) 537 _ [.int (nI ((if (E.2.2.2.2 (4 * j + 1)) < 0 then 1 else 0)))]
  refine V_ist5 dL_law_537 rfl (by decide) ?_
  refine V_ald2 dL_law_539 ?_
  refine V_ald0 dL_law_540 ?_
  refine V_ild4 dL_law_541 ?_
  refine V_iconst (v := 1) dL_law_543 (by decide) ?_
  refine V_iadd dL_law_544 ?_
  refine V_ro2 (j := 4 * j + 1) (nI_add (4 * j) 1) (by omega) (by omega) dL_law_545 ?_
  refine V_cv1P lk_L_134 cc_X6_fate dL_law_546 hm0 (c_X6_fate hm r1 hw.1 _) (xFit.mk (by decide) (by decide) (by show c + 1 + 0 ≤ 601024; omega) (by show s + 6 + 0 ≤ 7293034; omega)) (Nat.le_of_ble_eq_true rfl) (fun o9 q9 hq9 => ?_)
  obtain ⟨b, M2, rfl, b9, rfl, r2, z2, f2⟩ := hq9
  have li : LI M2 L1 o m (if (if (E.2.2.2.2 (4 * j + 1)) < 0 then 1 else 0) = 0 then S else S) (T + 99) (B + 216000) := ⟨c1.outM (fun z q1 q2 => f2 z (by omega)), (by rw [ite_self]; exact r2), (by rw [ite_self]; exact hw.mono (by omega) (by omega))⟩
  show V E l _ _ (false, n, K, G, M2, L1) (c + 1, s + 6) 549 _ [.int b]
  refine V_ist6 dL_law_549 rfl (by decide) ?_
  refine V_ald2 dL_law_551 ?_
  refine V_cv0R lk_L_104 cc_X6_thrown dL_law_552 hm0 (c_X6_thrown hm0) (xFit.mk (by decide) (by decide) (by show c + 1 + 0 ≤ 601024; omega) (by show s + 6 + 0 ≤ 7293034; omega)) rfl rfl (Nat.le_of_ble_eq_true rfl) ?_
  rw [z2]
  refine V_ild5 dL_law_555 ?_
  refine V_icmp_eq (tgt := 562) dL_law_557 (by decide) (fun h557 => ?_) (fun h557 => ?_)
  · refine V_ild5 dL_law_562 ?_
    refine V_if_ne (tgt := 579) dL_law_564 (by decide) (fun h564 => ?_) (fun h564 => ?_)
    · refine V_goto (tgt := 1720) dL_law_579 (by decide) ?_
      exact next _ _ _ _ _ _ li
    · refine V_ald3 dL_law_567 ?_
      refine V_iconst (v := 0) dL_law_568 (by decide) ?_
      refine V_lald (j := 0) dL_law_569 (by assumption) (by decide) (by decide) ?_
      refine V_ild6 dL_law_570 ?_
      refine V_i2l dL_law_572 ?_
      refine V_lcmp dL_law_573 ?_
      refine V_if_eq (tgt := 579) dL_law_574 (by decide) (fun h574 => ?_) (fun h574 => ?_)
      · refine V_goto (tgt := 1720) dL_law_579 (by decide) ?_
        exact next _ _ _ _ _ _ li
      · exact absurd ((lg_cmp_eq _ _).mpr (by rw [a1 (nI_03 k3 h564), b9 (nI_03 k3 h564)])) h574
  · exact absurd rfl h557
theorem L_c_longest (hl9 : l.stackTraces = false) (hx : rX n K G o) (hm : rM n K G m) (hu : xIs n K u 11 1) (s1 : o + 288 < m) (s2 : m + 7 < u) (hi : LI M L o m S T B) (t1 : 10000 ≤ T) (t2 : T ≤ 240000) (b1 : 21600000 ≤ B) (b2 : B ≤ 200000000) (hcc : c + 1 ≤ 601024) (hss : s + 6 ≤ 7293034) (hj : 4 * j + 4 ≤ E.2.2.2.1) (hN : E.2.2.2.1 ≤ 2048)
    (next : ∀ M' L' S' o5 o6 o7, LI M' L' o m S' (T + 99) (B + 216000) → V E l Y_L_law Q (false, n, K, G, M', L') (c + 1, s + 6) 1720 [some (.ref 2), some (.ref o), some (.ref m), some (.ref u), some (.int (nI (4 * j))), o5, o6, o7] []) (o5 o6 o7 : Option Value) :
    V E l Y_L_law Q (false, n, K, G, M, L) (c, s) 582 [some (.ref 2), some (.ref o), some (.ref m), some (.ref u), some (.int (nI (4 * j))), o5, o6, o7] [] := by
  obtain ⟨hc, hr, hw⟩ := hi
  have hx0 := hx.1
  have hm0 := hm.1
  refine V_ald1 dL_law_582 ?_
  refine V_ald0 dL_law_583 ?_
  refine V_ild4 dL_law_584 ?_
  refine V_iconst (v := 1) dL_law_586 (by decide) ?_
  refine V_iadd dL_law_587 ?_
  refine V_ro2 (j := 4 * j + 1) (nI_add (4 * j) 1) (by omega) (by omega) dL_law_588 ?_
  refine V_ald3 dL_law_589 ?_
  refine V_csH (Y' := Y_L_longest) (As := [.ref o, .int (E.2.2.2.2 (4 * j + 1)), .ref u]) (rest := []) ml_L_135 (List.cons_ne_nil _ _) mc_L_longest mi_L hn_L_longest mt_L_longest dL_law_590 (c_L_longest hx hu (Or.inr (by omega)) hc _ ((c_X5_longest hl9 hx hc _).weak (xW_G hc) (fun _ _ q => q))) (xFit.mk (by decide) (by decide) hcc hss) (Nat.le_of_ble_eq_true rfl) (fun o9 q9 hq9 => ?_)
  obtain ⟨x9, M1, L1, rfl, rfl, c1, f1, a1, k3⟩ := hq9
  refine V_loose ?_
  have r1 : MRel M1 m S := hr.cong (fun z q1 q2 => (f1 z (by omega) (by omega)).1)
  show V E l _ _ (false, n, K, G, M1, L1) (c + 1, s + 6) 593 _ [.int (nI (kdO (E.2.2.2.2 (4 * j + 1)) 0 3))]
  refine V_ist5 dL_law_593 rfl (by decide) ?_
  refine V_ald2 dL_law_595 ?_
  refine V_ald0 dL_law_596 ?_
  refine V_ild4 dL_law_597 ?_
  refine V_iconst (v := 1) dL_law_599 (by decide) ?_
  refine V_iadd dL_law_600 ?_
  refine V_ro2 (j := 4 * j + 1) (nI_add (4 * j) 1) (by omega) (by omega) dL_law_601 ?_
  refine V_cv1P lk_L_137 cc_X6_longest dL_law_602 hm0 (c_X6_longest hm r1 hw.1 _) (xFit.mk (by decide) (by decide) (by show c + 1 + 0 ≤ 601024; omega) (by show s + 6 + 0 ≤ 7293034; omega)) (Nat.le_of_ble_eq_true rfl) (fun o9 q9 hq9 => ?_)
  obtain ⟨b, M2, rfl, b9, rfl, r2, z2, f2⟩ := hq9
  have li : LI M2 L1 o m (if kdO (E.2.2.2.2 (4 * j + 1)) 0 3 = 0 then S else S) (T + 99) (B + 216000) := ⟨c1.outM (fun z q1 q2 => f2 z (by omega)), (by rw [ite_self]; exact r2), (by rw [ite_self]; exact hw.mono (by omega) (by omega))⟩
  show V E l _ _ (false, n, K, G, M2, L1) (c + 1, s + 6) 605 _ [.int b]
  refine V_ist6 dL_law_605 rfl (by decide) ?_
  refine V_ald2 dL_law_607 ?_
  refine V_cv0R lk_L_104 cc_X6_thrown dL_law_608 hm0 (c_X6_thrown hm0) (xFit.mk (by decide) (by decide) (by show c + 1 + 0 ≤ 601024; omega) (by show s + 6 + 0 ≤ 7293034; omega)) rfl rfl (Nat.le_of_ble_eq_true rfl) ?_
  rw [z2]
  refine V_ild5 dL_law_611 ?_
  refine V_icmp_eq (tgt := 618) dL_law_613 (by decide) (fun h613 => ?_) (fun h613 => ?_)
  · refine V_ild5 dL_law_618 ?_
    refine V_if_ne (tgt := 635) dL_law_620 (by decide) (fun h620 => ?_) (fun h620 => ?_)
    · refine V_goto (tgt := 1720) dL_law_635 (by decide) ?_
      exact next _ _ _ _ _ _ li
    · refine V_ald3 dL_law_623 ?_
      refine V_iconst (v := 0) dL_law_624 (by decide) ?_
      refine V_lald (j := 0) dL_law_625 (by assumption) (by decide) (by decide) ?_
      refine V_ild6 dL_law_626 ?_
      refine V_i2l dL_law_628 ?_
      refine V_lcmp dL_law_629 ?_
      refine V_if_eq (tgt := 635) dL_law_630 (by decide) (fun h630 => ?_) (fun h630 => ?_)
      · refine V_goto (tgt := 1720) dL_law_635 (by decide) ?_
        exact next _ _ _ _ _ _ li
      · exact absurd ((lg_cmp_eq _ _).mpr (by rw [a1 (nI_03 k3 h620), b9 (nI_03 k3 h620)])) h630
  · exact absurd rfl h613
theorem L_c_pattern (hl9 : l.stackTraces = false) (hx : rX n K G o) (hm : rM n K G m) (hu : xIs n K u 11 1) (s1 : o + 288 < m) (s2 : m + 7 < u) (hi : LI M L o m S T B) (t1 : 10000 ≤ T) (t2 : T ≤ 240000) (b1 : 21600000 ≤ B) (b2 : B ≤ 200000000) (hcc : c + 1 ≤ 601024) (hss : s + 6 ≤ 7293034) (hj : 4 * j + 4 ≤ E.2.2.2.1) (hN : E.2.2.2.1 ≤ 2048)
    (next : ∀ M' L' S' o5 o6 o7, LI M' L' o m S' (T + 99) (B + 216000) → V E l Y_L_law Q (false, n, K, G, M', L') (c + 1, s + 6) 1720 [some (.ref 2), some (.ref o), some (.ref m), some (.ref u), some (.int (nI (4 * j))), o5, o6, o7] []) (o5 o6 o7 : Option Value) :
    V E l Y_L_law Q (false, n, K, G, M, L) (c, s) 638 [some (.ref 2), some (.ref o), some (.ref m), some (.ref u), some (.int (nI (4 * j))), o5, o6, o7] [] := by
  obtain ⟨hc, hr, hw⟩ := hi
  have hx0 := hx.1
  have hm0 := hm.1
  refine V_ald1 dL_law_638 ?_
  refine V_ald0 dL_law_639 ?_
  refine V_ild4 dL_law_640 ?_
  refine V_iconst (v := 1) dL_law_642 (by decide) ?_
  refine V_iadd dL_law_643 ?_
  refine V_ro2 (j := 4 * j + 1) (nI_add (4 * j) 1) (by omega) (by omega) dL_law_644 ?_
  refine V_ald0 dL_law_645 ?_
  refine V_ild4 dL_law_646 ?_
  refine V_iconst (v := 2) dL_law_648 (by decide) ?_
  refine V_iadd dL_law_649 ?_
  refine V_ro2 (j := 4 * j + 2) (nI_add (4 * j) 2) (by omega) (by omega) dL_law_650 ?_
  refine V_ald3 dL_law_651 ?_
  refine V_csH (Y' := Y_L_pattern) (As := [.ref o, .int (E.2.2.2.2 (4 * j + 1)), .int (E.2.2.2.2 (4 * j + 2)), .ref u]) (rest := []) ml_L_138 (List.cons_ne_nil _ _) mc_L_pattern mi_L hn_L_pattern mt_L_pattern dL_law_652 (c_L_pattern hx hu (Or.inr (by omega)) hc _ _ ((c_X5_pattern hl9 hx hc _ _).weak (xW_G hc) (fun _ _ q => q))) (xFit.mk (by decide) (by decide) hcc hss) (Nat.le_of_ble_eq_true rfl) (fun o9 q9 hq9 => ?_)
  obtain ⟨x9, M1, L1, rfl, rfl, c1, f1, a1, k3⟩ := hq9
  refine V_loose ?_
  have r1 : MRel M1 m S := hr.cong (fun z q1 q2 => (f1 z (by omega) (by omega)).1)
  show V E l _ _ (false, n, K, G, M1, L1) (c + 1, s + 6) 655 _ [.int (nI (kdPat (E.2.2.2.2 (4 * j + 1)) (E.2.2.2.2 (4 * j + 2))))]
  refine V_ist5 dL_law_655 rfl (by decide) ?_
  refine V_ald2 dL_law_657 ?_
  refine V_ald0 dL_law_658 ?_
  refine V_ild4 dL_law_659 ?_
  refine V_iconst (v := 1) dL_law_661 (by decide) ?_
  refine V_iadd dL_law_662 ?_
  refine V_ro2 (j := 4 * j + 1) (nI_add (4 * j) 1) (by omega) (by omega) dL_law_663 ?_
  refine V_ald0 dL_law_664 ?_
  refine V_ild4 dL_law_665 ?_
  refine V_iconst (v := 2) dL_law_667 (by decide) ?_
  refine V_iadd dL_law_668 ?_
  refine V_ro2 (j := 4 * j + 2) (nI_add (4 * j) 2) (by omega) (by omega) dL_law_669 ?_
  refine V_cv2P lk_L_140 cc_X6_pattern dL_law_670 hm0 (c_X6_pattern hm r1 hw.1 _ _) (xFit.mk (by decide) (by decide) (by show c + 1 + 0 ≤ 601024; omega) (by show s + 6 + 0 ≤ 7293034; omega)) (Nat.le_of_ble_eq_true rfl) (fun o9 q9 hq9 => ?_)
  obtain ⟨b, M2, rfl, b9, rfl, r2, z2, f2⟩ := hq9
  have li : LI M2 L1 o m (if kdPat (E.2.2.2.2 (4 * j + 1)) (E.2.2.2.2 (4 * j + 2)) = 0 then S else S) (T + 99) (B + 216000) := ⟨c1.outM (fun z q1 q2 => f2 z (by omega)), (by rw [ite_self]; exact r2), (by rw [ite_self]; exact hw.mono (by omega) (by omega))⟩
  show V E l _ _ (false, n, K, G, M2, L1) (c + 1, s + 6) 673 _ [.int b]
  refine V_ist6 dL_law_673 rfl (by decide) ?_
  refine V_ald2 dL_law_675 ?_
  refine V_cv0R lk_L_104 cc_X6_thrown dL_law_676 hm0 (c_X6_thrown hm0) (xFit.mk (by decide) (by decide) (by show c + 1 + 0 ≤ 601024; omega) (by show s + 6 + 0 ≤ 7293034; omega)) rfl rfl (Nat.le_of_ble_eq_true rfl) ?_
  rw [z2]
  refine V_ild5 dL_law_679 ?_
  refine V_icmp_eq (tgt := 686) dL_law_681 (by decide) (fun h681 => ?_) (fun h681 => ?_)
  · refine V_ild5 dL_law_686 ?_
    refine V_if_ne (tgt := 703) dL_law_688 (by decide) (fun h688 => ?_) (fun h688 => ?_)
    · refine V_goto (tgt := 1720) dL_law_703 (by decide) ?_
      exact next _ _ _ _ _ _ li
    · refine V_ald3 dL_law_691 ?_
      refine V_iconst (v := 0) dL_law_692 (by decide) ?_
      refine V_lald (j := 0) dL_law_693 (by assumption) (by decide) (by decide) ?_
      refine V_ild6 dL_law_694 ?_
      refine V_i2l dL_law_696 ?_
      refine V_lcmp dL_law_697 ?_
      refine V_if_eq (tgt := 703) dL_law_698 (by decide) (fun h698 => ?_) (fun h698 => ?_)
      · refine V_goto (tgt := 1720) dL_law_703 (by decide) ?_
        exact next _ _ _ _ _ _ li
      · exact absurd ((lg_cmp_eq _ _).mpr (by rw [a1 (nI_03 k3 h688), b9 (nI_03 k3 h688)])) h698
  · exact absurd rfl h681
theorem L_c_rain (hl9 : l.stackTraces = false) (hx : rX n K G o) (hm : rM n K G m) (hu : xIs n K u 11 1) (s1 : o + 288 < m) (s2 : m + 7 < u) (hi : LI M L o m S T B) (t1 : 10000 ≤ T) (t2 : T ≤ 240000) (b1 : 21600000 ≤ B) (b2 : B ≤ 200000000) (hcc : c + 1 ≤ 601024) (hss : s + 6 ≤ 7293034) (hj : 4 * j + 4 ≤ E.2.2.2.1) (hN : E.2.2.2.1 ≤ 2048)
    (next : ∀ M' L' S' o5 o6 o7, LI M' L' o m S' (T + 99) (B + 216000) → V E l Y_L_law Q (false, n, K, G, M', L') (c + 1, s + 6) 1720 [some (.ref 2), some (.ref o), some (.ref m), some (.ref u), some (.int (nI (4 * j))), o5, o6, o7] []) (o5 o6 o7 : Option Value) :
    V E l Y_L_law Q (false, n, K, G, M, L) (c, s) 706 [some (.ref 2), some (.ref o), some (.ref m), some (.ref u), some (.int (nI (4 * j))), o5, o6, o7] [] := by
  obtain ⟨hc, hr, hw⟩ := hi
  have hx0 := hx.1
  have hm0 := hm.1
  refine V_ald1 dL_law_706 ?_
  refine V_ald0 dL_law_707 ?_
  refine V_ild4 dL_law_708 ?_
  refine V_iconst (v := 1) dL_law_710 (by decide) ?_
  refine V_iadd dL_law_711 ?_
  refine V_ro2 (j := 4 * j + 1) (nI_add (4 * j) 1) (by omega) (by omega) dL_law_712 ?_
  refine V_ald3 dL_law_713 ?_
  refine V_csH (Y' := Y_L_rain) (As := [.ref o, .int (E.2.2.2.2 (4 * j + 1)), .ref u]) (rest := []) ml_L_141 (List.cons_ne_nil _ _) mc_L_rain mi_L hn_L_rain mt_L_rain dL_law_714 (c_L_rain hx hu (Or.inr (by omega)) hc _ ((c_X5_rain hl9 hx hc _).weak (xW_G hc) (fun _ _ q => q))) (xFit.mk (by decide) (by decide) hcc hss) (Nat.le_of_ble_eq_true rfl) (fun o9 q9 hq9 => ?_)
  obtain ⟨x9, M1, L1, rfl, rfl, c1, f1, a1, k3⟩ := hq9
  refine V_loose ?_
  have r1 : MRel M1 m S := hr.cong (fun z q1 q2 => (f1 z (by omega) (by omega)).1)
  show V E l _ _ (false, n, K, G, M1, L1) (c + 1, s + 6) 717 _ [.int (nI (kdO (E.2.2.2.2 (4 * j + 1)) 0 2))]
  refine V_ist5 dL_law_717 rfl (by decide) ?_
  refine V_ald2 dL_law_719 ?_
  refine V_ald0 dL_law_720 ?_
  refine V_ild4 dL_law_721 ?_
  refine V_iconst (v := 1) dL_law_723 (by decide) ?_
  refine V_iadd dL_law_724 ?_
  refine V_ro2 (j := 4 * j + 1) (nI_add (4 * j) 1) (by omega) (by omega) dL_law_725 ?_
  refine V_cv1P lk_L_143 cc_X6_rain dL_law_726 hm0 (c_X6_rain hm r1 hw.1 _) (xFit.mk (by decide) (by decide) (by show c + 1 + 0 ≤ 601024; omega) (by show s + 6 + 0 ≤ 7293034; omega)) (Nat.le_of_ble_eq_true rfl) (fun o9 q9 hq9 => ?_)
  obtain ⟨b, M2, rfl, b9, rfl, r2, z2, f2⟩ := hq9
  have li : LI M2 L1 o m (if kdO (E.2.2.2.2 (4 * j + 1)) 0 2 = 0 then S else S) (T + 99) (B + 216000) := ⟨c1.outM (fun z q1 q2 => f2 z (by omega)), (by rw [ite_self]; exact r2), (by rw [ite_self]; exact hw.mono (by omega) (by omega))⟩
  show V E l _ _ (false, n, K, G, M2, L1) (c + 1, s + 6) 729 _ [.long b]
  refine V_lst6 dL_law_729 rfl (by decide) ?_
  refine V_ald2 dL_law_731 ?_
  refine V_cv0R lk_L_104 cc_X6_thrown dL_law_732 hm0 (c_X6_thrown hm0) (xFit.mk (by decide) (by decide) (by show c + 1 + 0 ≤ 601024; omega) (by show s + 6 + 0 ≤ 7293034; omega)) rfl rfl (Nat.le_of_ble_eq_true rfl) ?_
  rw [z2]
  refine V_ild5 dL_law_735 ?_
  refine V_icmp_eq (tgt := 742) dL_law_737 (by decide) (fun h737 => ?_) (fun h737 => ?_)
  · refine V_ild5 dL_law_742 ?_
    refine V_if_ne (tgt := 758) dL_law_744 (by decide) (fun h744 => ?_) (fun h744 => ?_)
    · refine V_goto (tgt := 1720) dL_law_758 (by decide) ?_
      exact next _ _ _ _ _ _ li
    · refine V_ald3 dL_law_747 ?_
      refine V_iconst (v := 0) dL_law_748 (by decide) ?_
      refine V_lald (j := 0) dL_law_749 (by assumption) (by decide) (by decide) ?_
      refine V_lld6 dL_law_750 ?_
      refine V_lcmp dL_law_752 ?_
      refine V_if_eq (tgt := 758) dL_law_753 (by decide) (fun h753 => ?_) (fun h753 => ?_)
      · refine V_goto (tgt := 1720) dL_law_758 (by decide) ?_
        exact next _ _ _ _ _ _ li
      · exact absurd ((lg_cmp_eq _ _).mpr (by rw [a1 (nI_03 k3 h744), b9 (nI_03 k3 h744)])) h753
  · exact absurd rfl h737
theorem L_c_trueRain (hl9 : l.stackTraces = false) (hx : rX n K G o) (hm : rM n K G m) (hu : xIs n K u 11 1) (s1 : o + 288 < m) (s2 : m + 7 < u) (hi : LI M L o m S T B) (t1 : 10000 ≤ T) (t2 : T ≤ 240000) (b1 : 21600000 ≤ B) (b2 : B ≤ 200000000) (hcc : c + 1 ≤ 601024) (hss : s + 6 ≤ 7293034) (hj : 4 * j + 4 ≤ E.2.2.2.1) (hN : E.2.2.2.1 ≤ 2048)
    (next : ∀ M' L' S' o5 o6 o7, LI M' L' o m S' (T + 99) (B + 216000) → V E l Y_L_law Q (false, n, K, G, M', L') (c + 1, s + 6) 1720 [some (.ref 2), some (.ref o), some (.ref m), some (.ref u), some (.int (nI (4 * j))), o5, o6, o7] []) (o5 o6 o7 : Option Value) :
    V E l Y_L_law Q (false, n, K, G, M, L) (c, s) 761 [some (.ref 2), some (.ref o), some (.ref m), some (.ref u), some (.int (nI (4 * j))), o5, o6, o7] [] := by
  obtain ⟨hc, hr, hw⟩ := hi
  have hx0 := hx.1
  have hm0 := hm.1
  refine V_ald1 dL_law_761 ?_
  refine V_cv0R lk_L_144 cc_X5_trueRain dL_law_762 hx0 (c_X5_trueRain hx hc) (xFit.mk (by decide) (by decide) (by show c + 0 ≤ 601024; omega) (by show s + 0 ≤ 7293034; omega)) rfl rfl (Nat.le_of_ble_eq_true rfl) ?_
  refine V_ald2 dL_law_765 ?_
  refine V_cv0P lk_L_148 cc_X6_trueRain dL_law_766 hm0 (c_X6_trueRain hm hr) (xFit.mk (by decide) (by decide) (by show c + 0 ≤ 601024; omega) (by show s + 0 ≤ 7293034; omega)) (Nat.le_of_ble_eq_true rfl) (fun o9 q9 hq9 => ?_)
  obtain ⟨b, M2, rfl, b9, rfl, r2, z2, f2⟩ := hq9
  have li : LI M2 L o m (S) (T + 99) (B + 216000) := ⟨hc.outM (fun z q1 q2 => f2 z (by omega)), r2, hw.mono (by omega) (by omega)⟩
  show V E l _ _ (false, n, K, G, M2, L) (c, s) 769 _ [.long b, .long (S.2.2.1 190).toInt64]
  refine V_lcmp dL_law_769 ?_
  refine V_if_eq (tgt := 1720) dL_law_770 (by decide) (fun h770 => ?_) (fun h770 => ?_)
  · exact V_widen (k := c + 1) (n := s + 6) (Nat.le_succ c) (Nat.le_add_right s 6) (next _ _ _ _ _ _ li)
  · exact absurd ((lg_cmp_eq _ _).mpr (b9 rfl).symm) h770
theorem L_c_drop (hl9 : l.stackTraces = false) (hx : rX n K G o) (hm : rM n K G m) (hu : xIs n K u 11 1) (s1 : o + 288 < m) (s2 : m + 7 < u) (hi : LI M L o m S T B) (t1 : 10000 ≤ T) (t2 : T ≤ 240000) (b1 : 21600000 ≤ B) (b2 : B ≤ 200000000) (hcc : c + 1 ≤ 601024) (hss : s + 6 ≤ 7293034) (hj : 4 * j + 4 ≤ E.2.2.2.1) (hN : E.2.2.2.1 ≤ 2048)
    (next : ∀ M' L' S' o5 o6 o7, LI M' L' o m S' (T + 99) (B + 216000) → V E l Y_L_law Q (false, n, K, G, M', L') (c + 1, s + 6) 1720 [some (.ref 2), some (.ref o), some (.ref m), some (.ref u), some (.int (nI (4 * j))), o5, o6, o7] []) (o5 o6 o7 : Option Value) :
    V E l Y_L_law Q (false, n, K, G, M, L) (c, s) 775 [some (.ref 2), some (.ref o), some (.ref m), some (.ref u), some (.int (nI (4 * j))), o5, o6, o7] [] := by
  obtain ⟨hc, hr, hw⟩ := hi
  have hx0 := hx.1
  have hm0 := hm.1
  refine V_ald1 dL_law_775 ?_
  refine V_ald0 dL_law_776 ?_
  refine V_ild4 dL_law_777 ?_
  refine V_iconst (v := 1) dL_law_779 (by decide) ?_
  refine V_iadd dL_law_780 ?_
  refine V_ro2 (j := 4 * j + 1) (nI_add (4 * j) 1) (by omega) (by omega) dL_law_781 ?_
  refine V_ald0 dL_law_782 ?_
  refine V_ild4 dL_law_783 ?_
  refine V_iconst (v := 2) dL_law_785 (by decide) ?_
  refine V_iadd dL_law_786 ?_
  refine V_ro2 (j := 4 * j + 2) (nI_add (4 * j) 2) (by omega) (by omega) dL_law_787 ?_
  refine V_ald3 dL_law_788 ?_
  refine V_csH (Y' := Y_L_drop) (As := [.ref o, .int (E.2.2.2.2 (4 * j + 1)), .int (E.2.2.2.2 (4 * j + 2)), .ref u]) (rest := []) ml_L_149 (List.cons_ne_nil _ _) mc_L_drop mi_L hn_L_drop mt_L_drop dL_law_789 (c_L_drop hx hu (Or.inr (by omega)) hc _ _ (c_X5_drop hl9 hx hc hw (by omega) (by omega) _ _)) (xFit.mk (by decide) (by decide) hcc hss) (Nat.le_of_ble_eq_true rfl) (fun o9 q9 hq9 => ?_)
  obtain ⟨x9, M1, L1, rfl, rfl, c1, f1, a1, k3⟩ := hq9
  refine V_loose ?_
  have r1 : MRel M1 m S := hr.cong (fun z q1 q2 => (f1 z (by omega) (by omega)).1)
  show V E l _ _ (false, n, K, G, M1, L1) (c + 1, s + 6) 792 _ [.int (nI (kdFall (E.2.2.2.2 (4 * j + 1)) (E.2.2.2.2 (4 * j + 2))))]
  refine V_ist5 dL_law_792 rfl (by decide) ?_
  refine V_ald2 dL_law_794 ?_
  refine V_ald0 dL_law_795 ?_
  refine V_ild4 dL_law_796 ?_
  refine V_iconst (v := 1) dL_law_798 (by decide) ?_
  refine V_iadd dL_law_799 ?_
  refine V_ro2 (j := 4 * j + 1) (nI_add (4 * j) 1) (by omega) (by omega) dL_law_800 ?_
  refine V_ald0 dL_law_801 ?_
  refine V_ild4 dL_law_802 ?_
  refine V_iconst (v := 2) dL_law_804 (by decide) ?_
  refine V_iadd dL_law_805 ?_
  refine V_ro2 (j := 4 * j + 2) (nI_add (4 * j) 2) (by omega) (by omega) dL_law_806 ?_
  refine V_cv2P lk_L_151 cc_X6_drop dL_law_807 hm0 (c_X6_drop hm r1 hw.1 _ _) (xFit.mk (by decide) (by decide) (by show c + 1 + 0 ≤ 601024; omega) (by show s + 6 + 0 ≤ 7293034; omega)) (Nat.le_of_ble_eq_true rfl) (fun o9 q9 hq9 => ?_)
  obtain ⟨b, M2, rfl, b9, rfl, r2, z2, f2⟩ := hq9
  have li : LI M2 L1 o m (if kdFall (E.2.2.2.2 (4 * j + 1)) (E.2.2.2.2 (4 * j + 2)) = 0 then sNow (sPush S) (rDr S.2.2.1 (E.2.2.2.2 (4 * j + 1)) (E.2.2.2.2 (4 * j + 2))) else S) (T + 99) (B + 216000) := ⟨c1.outM (fun z q1 q2 => f2 z (by omega)), r2, W_if (fun k0 => W_drop hw t2 b2 k0) (hw.mono (by omega) (by omega))⟩
  show V E l _ _ (false, n, K, G, M2, L1) (c + 1, s + 6) 810 _ [.int b]
  refine V_ist6 dL_law_810 rfl (by decide) ?_
  refine V_ald2 dL_law_812 ?_
  refine V_cv0R lk_L_104 cc_X6_thrown dL_law_813 hm0 (c_X6_thrown hm0) (xFit.mk (by decide) (by decide) (by show c + 1 + 0 ≤ 601024; omega) (by show s + 6 + 0 ≤ 7293034; omega)) rfl rfl (Nat.le_of_ble_eq_true rfl) ?_
  rw [z2]
  refine V_ild5 dL_law_816 ?_
  refine V_icmp_eq (tgt := 823) dL_law_818 (by decide) (fun h818 => ?_) (fun h818 => ?_)
  · refine V_ild5 dL_law_823 ?_
    refine V_if_ne (tgt := 840) dL_law_825 (by decide) (fun h825 => ?_) (fun h825 => ?_)
    · refine V_goto (tgt := 1720) dL_law_840 (by decide) ?_
      exact next _ _ _ _ _ _ li
    · refine V_ald3 dL_law_828 ?_
      refine V_iconst (v := 0) dL_law_829 (by decide) ?_
      refine V_lald (j := 0) dL_law_830 (by assumption) (by decide) (by decide) ?_
      refine V_ild6 dL_law_831 ?_
      refine V_i2l dL_law_833 ?_
      refine V_lcmp dL_law_834 ?_
      refine V_if_eq (tgt := 840) dL_law_835 (by decide) (fun h835 => ?_) (fun h835 => ?_)
      · refine V_goto (tgt := 1720) dL_law_840 (by decide) ?_
        exact next _ _ _ _ _ _ li
      · exact absurd ((lg_cmp_eq _ _).mpr (by rw [a1 (nI_03 k3 h825), b9 (nI_03 k3 h825)])) h835
  · exact absurd rfl h818
end C76

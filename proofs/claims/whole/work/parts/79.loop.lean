/-! ===== the law: its loop, its beginning ===== -/
theorem cc_X5_init : xCI Y_X5_init 0 := ⟨ok_X5_init, mm_X5_init, rfl, rfl⟩
theorem cc_X6_init : xCI Y_X6_init 0 := ⟨ok_X6_init, mm_X6_init, rfl, rfl⟩
section P79
variable {n n' o m T B : Nat} {K K' : xKnd} {G G' : xRef} {M M' : xMem} {L L' : xLng} {S : xSp}
theorem lenGt {len j : Nat} (hL : len ≤ 2048) (hj : 4 * j ≤ len) : (nI len - 4 < nI (4 * j)) ↔ ¬ 4 * j + 4 ≤ len := by
  by_cases c : 4 ≤ len
  · rw [show nI len - 4 = nI (len - 4) from pkSub (b := 4) c, nI_ltI (by omega) (by omega)]; omega
  · have h1 : nI len - 4 < 0 := pk_sneg (b := 4) (by decide) (by omega)
    have h2 : (0 : Int32) ≤ nI (4 * j) := nI_pos' (by omega)
    exact ⟨fun _ => by omega, fun _ => Int32.lt_of_lt_of_le h1 h2⟩
theorem CRel.cong (h : CRel M L o S) (hM : ∀ k, o ≤ k → k ≤ o + 288 → M' k = M k) (hL : ∀ k, o ≤ k → k ≤ o + 288 → L' k = L k) : CRel M' L' o S := by
  obtain ⟨c0, c1, c2, c3, ⟨nx, n1, n2, n3, n4, n5⟩, c5, c6, c7, c8⟩ := h
  have al : ∀ s R, o ≤ s → s + 14 ≤ o + 288 → AlE M L s R → AlE M' L' s R := fun s R q1 q2 q => q.congr (fun k i h1 h2 => by rw [hM k (by omega) (by omega)]) (by rw [hL _ (by omega) (by omega)])
  refine ⟨?_, ?_, al _ _ (by omega) (by omega) c2, al _ _ (by omega) (by omega) c3, ⟨nx, n1, ?_, ?_, n4, fun i hi => ?_⟩, ?_, ?_, fun q => al _ _ (by omega) (by omega) (c7 q), fun q => al _ _ (by omega) (by omega) (c8 q)⟩
  · unfold iTx; rw [hM _ (by omega) (by omega)]; exact c0
  · intro i hi; rw [hM _ (by omega) (by omega)]; exact c1 i hi
  · rw [hM _ (by omega) (by omega)]; exact n2
  · rw [hM _ (by omega) (by omega)]; exact n3
  · have := kMi_lt n1 (i := i) (Nat.lt_of_lt_of_le hi n4)
    exact al _ _ (by omega) (by omega) (n5 i hi)
  · rw [hM _ (by omega) (by omega)]; exact c5
  · rw [hM _ (by omega) (by omega)]; exact c6
theorem rX.go (h : rX n K G o) (hn : n ≤ n') (hk : ∀ k, o ≤ k → k ≤ o + 288 → K' k = K k ∧ G' k = G k) : rX n' K' G' o := by
  obtain ⟨h0, g0, ht, g1, s1, g2, s2, g3, s3, g4, h4, hj, g7, s7, g8, s8⟩ := h
  unfold rX
  rw [(hk o (by omega) (by omega)).2]
  exact ⟨h0.go hn (hk _ (by omega) (by omega)).1, g0, ht.go hn (fun k q1 q2 => hk k (by omega) (by omega)), g1, s1.go hn (fun k q1 q2 => hk k (by omega) (by omega)), g2, s2.go hn (fun k q1 q2 => hk k (by omega) (by omega)), g3, s3.go hn (fun k q1 q2 => hk k (by omega) (by omega)), g4, h4.go hn (hk _ (by omega) (by omega)).1, fun j q => ⟨by rw [(hk _ (by omega) (by omega)).2]; exact (hj j q).1, (hj j q).2.go hn (fun k q1 q2 => hk k (by omega) (by omega))⟩, g7, s7.go hn (fun k q1 q2 => hk k (by omega) (by omega)), g8, s8.go hn (fun k q1 q2 => hk k (by omega) (by omega))⟩
theorem rM.go (h : rM n K G m) (hn : n ≤ n') (hk : ∀ k, m ≤ k → k ≤ m + 7 → K' k = K k ∧ G' k = G k) : rM n' K' G' m := by
  obtain ⟨h0, g1, h1, g5, h2, g6, h3, g7, h4, g8, h5, g10, h6, g11, h7⟩ := h
  unfold rM
  rw [(hk m (by omega) (by omega)).2]
  exact ⟨h0.go hn (hk _ (by omega) (by omega)).1, g1, h1.go hn (hk _ (by omega) (by omega)).1, g5, h2.go hn (hk _ (by omega) (by omega)).1, g6, h3.go hn (hk _ (by omega) (by omega)).1, g7, h4.go hn (hk _ (by omega) (by omega)).1, g8, h5.go hn (hk _ (by omega) (by omega)).1, g10, h6.go hn (hk _ (by omega) (by omega)).1, g11, h7.go hn (hk _ (by omega) (by omega)).1⟩
end P79
section C79
variable {E : xEnv} {l : Launch} {Q : xQ} {n o m u : Nat} {K : xKnd} {G : xRef} {M : xMem} {L : xLng} {S : xSp}
theorem L_loop (hl9 : l.stackTraces = false) (hx : rX n K G o) (hm : rM n K G m) (hu : xIs n K u 11 1) (s1 : o + 288 < m) (s2 : m + 7 < u) (hN : E.2.2.2.1 ≤ 2048)
    (fin : ∀ (q : xS) (cs : Nat × Nat) (ls : List (Option Value)), cs.1 ≤ 601024 → cs.2 ≤ 7293034 → V E l Y_L_law Q q cs 1726 ls []) :
    ∀ (r j : Nat) (M : xMem) (L : xLng) (S : xSp) (o5 o6 o7 : Option Value), LI M L o m S (10000 + 99 * j) (21600000 + 216000 * j) → E.2.2.2.1 ≤ 4 * j + 4 * r → 4 * j ≤ E.2.2.2.1 →
      V E l Y_L_law Q (false, n, K, G, M, L) (298 + j, 8621 + 6 * j) 23 [some (.ref 2), some (.ref o), some (.ref m), some (.ref u), some (.int (nI (4 * j))), o5, o6, o7] [] := by
  intro r
  induction r with
  | zero =>
    intro j M L S o5 o6 o7 hi hr hj
    refine V_ild4 dL_law_23 ?_
    refine V_ald0 dL_law_25 ?_
    refine V_len2 dL_law_26 ?_
    refine V_iconst (v := 4) dL_law_27 (by decide) ?_
    refine V_isub dL_law_28 ?_
    refine V_icmp_gt (tgt := 1726) dL_law_29 (by decide) (fun h29 => ?_) (fun h29 => ?_)
    · exact fin _ _ _ (by simp only; omega) (by simp only; omega)
    · exact absurd ((lenGt hN hj).mpr (by omega)) h29
  | succ r ih =>
    intro j M L S o5 o6 o7 hi hr hj
    have next : 4 * j + 4 ≤ E.2.2.2.1 → ∀ M' L' S' o5 o6 o7, LI M' L' o m S' (10000 + 99 * j + 99) (21600000 + 216000 * j + 216000) → V E l Y_L_law Q (false, n, K, G, M', L') (298 + j + 1, 8621 + 6 * j + 6) 1720 [some (.ref 2), some (.ref o), some (.ref m), some (.ref u), some (.int (nI (4 * j))), o5, o6, o7] [] := by
      intro hj4 M' L' S' o5 o6 o7 hi'
      have e1 : 8621 + 6 * j + 6 = 8621 + 6 * (j + 1) := by omega
      have e2 : 10000 + 99 * j + 99 = 10000 + 99 * (j + 1) := by omega
      have e3 : 21600000 + 216000 * j + 216000 = 21600000 + 216000 * (j + 1) := by omega
      rw [e2, e3] at hi'
      rw [e1]
      refine V_inc4 dL_law_1720 rfl ((nI_add (4 * j) 4)) ?_
      refine V_goto (tgt := 23) dL_law_1723 (by decide) ?_
      have := ih (j + 1) M' L' S' o5 o6 o7 hi' (by omega) (by omega)
      rw [show 4 * (j + 1) = 4 * j + 4 by omega] at this
      exact this
    refine V_ild4 dL_law_23 ?_
    refine V_ald0 dL_law_25 ?_
    refine V_len2 dL_law_26 ?_
    refine V_iconst (v := 4) dL_law_27 (by decide) ?_
    refine V_isub dL_law_28 ?_
    refine V_icmp_gt (tgt := 1726) dL_law_29 (by decide) (fun h29 => ?_) (fun h29 => ?_)
    · exact fin _ _ _ (by simp only; omega) (by simp only; omega)
    · have hj4 : 4 * j + 4 ≤ E.2.2.2.1 := Decidable.byContradiction fun q => h29 ((lenGt hN hj).mpr q)
      have nx := next hj4
      refine V_ald0 dL_law_32 ?_
      refine V_ild4 dL_law_33 ?_
      refine V_ro2 (j := 4 * j) rfl (by omega) (by omega) dL_law_35 ?_
      refine V_bipush (v := 31) dL_law_36 (by decide) ?_
      refine V_iand dL_law_38 ?_
      refine V_topi (fun y39 e39 => ?_)
      by_cases s39_0 : y39 = 0
      · subst s39_0
        refine V_tableIn (tgt := 164) dL_law_39 (by decide) (by decide) (off := 125) (by decide) (by decide) ?_
        exact L_c_append hl9 hx hm hu s1 s2 hi (by omega) (by omega) (by omega) (by omega) (by omega) (by omega) hj4 hN nx o5 o6 o7
      by_cases s39_1 : y39 = 1
      · subst s39_1
        refine V_tableIn (tgt := 220) dL_law_39 (by decide) (by decide) (off := 181) (by decide) (by decide) ?_
        exact L_c_clearText hl9 hx hm hu s1 s2 hi (by omega) (by omega) (by omega) (by omega) (by omega) (by omega) hj4 hN nx o5 o6 o7
      by_cases s39_2 : y39 = 2
      · subst s39_2
        refine V_tableIn (tgt := 233) dL_law_39 (by decide) (by decide) (off := 194) (by decide) (by decide) ?_
        exact L_c_errorPosition hl9 hx hm hu s1 s2 hi (by omega) (by omega) (by omega) (by omega) (by omega) (by omega) hj4 hN nx o5 o6 o7
      by_cases s39_3 : y39 = 3
      · subst s39_3
        refine V_tableIn (tgt := 246) dL_law_39 (by decide) (by decide) (off := 207) (by decide) (by decide) ?_
        exact L_c_load hl9 hx hm hu s1 s2 hi (by omega) (by omega) (by omega) (by omega) (by omega) (by omega) hj4 hN nx o5 o6 o7
      by_cases s39_4 : y39 = 4
      · subst s39_4
        refine V_tableIn (tgt := 290) dL_law_39 (by decide) (by decide) (off := 251) (by decide) (by decide) ?_
        exact L_c_about hl9 hx hm hu s1 s2 hi (by omega) (by omega) (by omega) (by omega) (by omega) (by omega) hj4 hN nx o5 o6 o7
      by_cases s39_5 : y39 = 5
      · subst s39_5
        refine V_tableIn (tgt := 346) dL_law_39 (by decide) (by decide) (off := 307) (by decide) (by decide) ?_
        exact L_c_setting hl9 hx hm hu s1 s2 hi (by omega) (by omega) (by omega) (by omega) (by omega) (by omega) hj4 hN nx o5 o6 o7
      by_cases s39_6 : y39 = 6
      · subst s39_6
        refine V_tableIn (tgt := 402) dL_law_39 (by decide) (by decide) (off := 363) (by decide) (by decide) ?_
        exact L_c_bin hl9 hx hm hu s1 s2 hi (by omega) (by omega) (by omega) (by omega) (by omega) (by omega) hj4 hN nx o5 o6 o7
      by_cases s39_7 : y39 = 7
      · subst s39_7
        refine V_tableIn (tgt := 470) dL_law_39 (by decide) (by decide) (off := 431) (by decide) (by decide) ?_
        exact L_c_pulse hl9 hx hm hu s1 s2 hi (by omega) (by omega) (by omega) (by omega) (by omega) (by omega) hj4 hN nx o5 o6 o7
      by_cases s39_8 : y39 = 8
      · subst s39_8
        refine V_tableIn (tgt := 526) dL_law_39 (by decide) (by decide) (off := 487) (by decide) (by decide) ?_
        exact L_c_fate hl9 hx hm hu s1 s2 hi (by omega) (by omega) (by omega) (by omega) (by omega) (by omega) hj4 hN nx o5 o6 o7
      by_cases s39_9 : y39 = 9
      · subst s39_9
        refine V_tableIn (tgt := 582) dL_law_39 (by decide) (by decide) (off := 543) (by decide) (by decide) ?_
        exact L_c_longest hl9 hx hm hu s1 s2 hi (by omega) (by omega) (by omega) (by omega) (by omega) (by omega) hj4 hN nx o5 o6 o7
      by_cases s39_10 : y39 = 10
      · subst s39_10
        refine V_tableIn (tgt := 638) dL_law_39 (by decide) (by decide) (off := 599) (by decide) (by decide) ?_
        exact L_c_pattern hl9 hx hm hu s1 s2 hi (by omega) (by omega) (by omega) (by omega) (by omega) (by omega) hj4 hN nx o5 o6 o7
      by_cases s39_11 : y39 = 11
      · subst s39_11
        refine V_tableIn (tgt := 706) dL_law_39 (by decide) (by decide) (off := 667) (by decide) (by decide) ?_
        exact L_c_rain hl9 hx hm hu s1 s2 hi (by omega) (by omega) (by omega) (by omega) (by omega) (by omega) hj4 hN nx o5 o6 o7
      by_cases s39_12 : y39 = 12
      · subst s39_12
        refine V_tableIn (tgt := 761) dL_law_39 (by decide) (by decide) (off := 722) (by decide) (by decide) ?_
        exact L_c_trueRain hl9 hx hm hu s1 s2 hi (by omega) (by omega) (by omega) (by omega) (by omega) (by omega) hj4 hN nx o5 o6 o7
      by_cases s39_13 : y39 = 13
      · subst s39_13
        refine V_tableIn (tgt := 775) dL_law_39 (by decide) (by decide) (off := 736) (by decide) (by decide) ?_
        exact L_c_drop hl9 hx hm hu s1 s2 hi (by omega) (by omega) (by omega) (by omega) (by omega) (by omega) hj4 hN nx o5 o6 o7
      by_cases s39_14 : y39 = 14
      · subst s39_14
        refine V_tableIn (tgt := 843) dL_law_39 (by decide) (by decide) (off := 804) (by decide) (by decide) ?_
        exact L_c_pass hl9 hx hm hu s1 s2 hi (by omega) (by omega) (by omega) (by omega) (by omega) (by omega) hj4 hN nx o5 o6 o7
      by_cases s39_15 : y39 = 15
      · subst s39_15
        refine V_tableIn (tgt := 899) dL_law_39 (by decide) (by decide) (off := 860) (by decide) (by decide) ?_
        exact L_c_set hl9 hx hm hu s1 s2 hi (by omega) (by omega) (by omega) (by omega) (by omega) (by omega) hj4 hN nx o5 o6 o7
      by_cases s39_16 : y39 = 16
      · subst s39_16
        refine V_tableIn (tgt := 967) dL_law_39 (by decide) (by decide) (off := 928) (by decide) (by decide) ?_
        exact L_c_setBorder hl9 hx hm hu s1 s2 hi (by omega) (by omega) (by omega) (by omega) (by omega) (by omega) hj4 hN nx o5 o6 o7
      by_cases s39_17 : y39 = 17
      · subst s39_17
        refine V_tableIn (tgt := 1035) dL_law_39 (by decide) (by decide) (off := 996) (by decide) (by decide) ?_
        exact L_c_empty hl9 hx hm hu s1 s2 hi (by omega) (by omega) (by omega) (by omega) (by omega) (by omega) hj4 hN nx o5 o6 o7
      by_cases s39_18 : y39 = 18
      · subst s39_18
        refine V_tableIn (tgt := 1048) dL_law_39 (by decide) (by decide) (off := 1009) (by decide) (by decide) ?_
        exact L_c_undo hl9 hx hm hu s1 s2 hi (by omega) (by omega) (by omega) (by omega) (by omega) (by omega) hj4 hN nx o5 o6 o7
      by_cases s39_19 : y39 = 19
      · subst s39_19
        refine V_tableIn (tgt := 1092) dL_law_39 (by decide) (by decide) (off := 1053) (by decide) (by decide) ?_
        exact L_c_wouldBe hl9 hx hm hu s1 s2 hi (by omega) (by omega) (by omega) (by omega) (by omega) (by omega) hj4 hN nx o5 o6 o7
      by_cases s39_20 : y39 = 20
      · subst s39_20
        refine V_tableIn (tgt := 1160) dL_law_39 (by decide) (by decide) (off := 1121) (by decide) (by decide) ?_
        exact L_c_leastSize hl9 hx hm hu s1 s2 hi (by omega) (by omega) (by omega) (by omega) (by omega) (by omega) hj4 hN nx o5 o6 o7
      by_cases s39_21 : y39 = 21
      · subst s39_21
        refine V_tableIn (tgt := 1216) dL_law_39 (by decide) (by decide) (off := 1177) (by decide) (by decide) ?_
        exact L_c_quietIn hl9 hx hm hu s1 s2 hi (by omega) (by omega) (by omega) (by omega) (by omega) (by omega) hj4 hN nx o5 o6 o7
      by_cases s39_22 : y39 = 22
      · subst s39_22
        refine V_tableIn (tgt := 1272) dL_law_39 (by decide) (by decide) (off := 1233) (by decide) (by decide) ?_
        exact L_c_replay hl9 hx hm hu s1 s2 hi (by omega) (by omega) (by omega) (by omega) (by omega) (by omega) hj4 hN nx o5 o6 o7
      by_cases s39_23 : y39 = 23
      · subst s39_23
        refine V_tableIn (tgt := 1352) dL_law_39 (by decide) (by decide) (off := 1313) (by decide) (by decide) ?_
        exact L_c_bestWindow hl9 hx hm hu s1 s2 hi (by omega) (by omega) (by omega) (by omega) (by omega) (by omega) hj4 hN nx o5 o6 o7
      by_cases s39_24 : y39 = 24
      · subst s39_24
        refine V_tableIn (tgt := 1408) dL_law_39 (by decide) (by decide) (off := 1369) (by decide) (by decide) ?_
        exact L_c_runScript hl9 hx hm hu s1 s2 hi (by omega) (by omega) (by omega) (by omega) (by omega) (by omega) hj4 hN nx o5 o6 o7
      by_cases s39_25 : y39 = 25
      · subst s39_25
        refine V_tableIn (tgt := 1508) dL_law_39 (by decide) (by decide) (off := 1469) (by decide) (by decide) ?_
        exact L_c_simulate hl9 hx hm hu s1 s2 hi (by omega) (by omega) (by omega) (by omega) (by omega) (by omega) hj4 hN nx o5 o6 o7
      by_cases s39_26 : y39 = 26
      · subst s39_26
        refine V_tableIn (tgt := 1608) dL_law_39 (by decide) (by decide) (off := 1569) (by decide) (by decide) ?_
        exact L_c_save hl9 hx hm hu s1 s2 hi (by omega) (by omega) (by omega) (by omega) (by omega) (by omega) hj4 hN nx o5 o6 o7
      by_cases s39_27 : y39 = 27
      · subst s39_27
        refine V_tableIn (tgt := 1664) dL_law_39 (by decide) (by decide) (off := 1625) (by decide) (by decide) ?_
        exact L_c_restore hl9 hx hm hu s1 s2 hi (by omega) (by omega) (by omega) (by omega) (by omega) (by omega) hj4 hN nx o5 o6 o7
      refine V_tableOut (tgt := 1720) dL_law_39 (by have q0 := xne s39_0; have q1 := xne s39_1; have q2 := xne s39_2; have q3 := xne s39_3; have q4 := xne s39_4; have q5 := xne s39_5; have q6 := xne s39_6; have q7 := xne s39_7; have q8 := xne s39_8; have q9 := xne s39_9; have q10 := xne s39_10; have q11 := xne s39_11; have q12 := xne s39_12; have q13 := xne s39_13; have q14 := xne s39_14; have q15 := xne s39_15; have q16 := xne s39_16; have q17 := xne s39_17; have q18 := xne s39_18; have q19 := xne s39_19; have q20 := xne s39_20; have q21 := xne s39_21; have q22 := xne s39_22; have q23 := xne s39_23; have q24 := xne s39_24; have q25 := xne s39_25; have q26 := xne s39_26; have q27 := xne s39_27; simp only [xlit_0, xlit_1, xlit_2, xlit_3, xlit_4, xlit_5, xlit_6, xlit_7, xlit_8, xlit_9, xlit_10, xlit_11, xlit_12, xlit_13, xlit_14, xlit_15, xlit_16, xlit_17, xlit_18, xlit_19, xlit_20, xlit_21, xlit_22, xlit_23, xlit_24, xlit_25, xlit_26, xlit_27] at q0 q1 q2 q3 q4 q5 q6 q7 q8 q9 q10 q11 q12 q13 q14 q15 q16 q17 q18 q19 q20 q21 q22 q23 q24 q25 q26 q27; omega) (by decide) ?_
      exact V_widen (k := 298 + j + 1) (n := 8621 + 6 * j + 6) (Nat.le_succ _) (Nat.le_add_right _ 6) (nx _ _ _ _ _ _ ⟨hi.1, hi.2.1, hi.2.2.mono (by omega) (by omega)⟩)
theorem L_start (hl9 : l.stackTraces = false) (hN : E.2.2.2.1 ≤ 2048)
    (fin : ∀ (q : xS) (cs : Nat × Nat) (ls : List (Option Value)), cs.1 ≤ 601024 → cs.2 ≤ 7293034 → V E l Y_L_law Q q cs 1726 ls []) :
    V E l Y_L_law Q (true, 3, K, G, M, L) (0, 0) 0 [some (.ref 2), none, none, none, none, none, none, none] [] := by
  refine V_new mn_L_8 dL_law_0 (by decide) (by decide) ?_
  refine V_dup dL_law_3 rfl ?_
  refine V_ci0P lk_L_94 cc_X5_init dL_law_4 (c_X5_init (xIs.new (Nat.le_refl 3) (by decide)) rfl) (xFit.mk (by decide) (by decide) (by decide) (by decide)) (Nat.le_of_ble_eq_true rfl) (fun o9 q9 hq9 => ?_)
  obtain ⟨rfl, K1, G1, M1, L1, rfl, ⟨-, fK1, fA1⟩, r1, i1⟩ := hq9
  show V E l _ _ (true, 292, K1, G1, M1, L1) (289, 4877) 7 _ [.ref 3]
  refine V_ast1 dL_law_7 rfl (by decide) ?_
  refine V_new mn_L_95 dL_law_8 (by decide) (by decide) ?_
  refine V_dup dL_law_11 rfl ?_
  refine V_ci0P lk_L_97 cc_X6_init dL_law_12 (c_X6_init (xIs.new (n := 292) (by decide) (by decide)) xnw_s rfl) (xFit.mk (by decide) (by decide) (by decide) (by decide)) (Nat.le_of_ble_eq_true rfl) (fun o9 q9 hq9 => ?_)
  obtain ⟨rfl, K2, G2, M2, L2, rfl, ⟨-, fK2, fA2⟩, r2, i2⟩ := hq9
  show V E l _ _ (true, 300, K2, G2, M2, L2) (297, 8620) 15 _ [.ref 292]
  refine V_ast2 dL_law_15 rfl (by decide) ?_
  refine V_iconst (v := 1) dL_law_16 (by decide) ?_
  refine V_newarr (N := 1) (Or.inr (Or.inl ⟨rfl, rfl⟩)) ma_long dL_law_17 (by decide) (by decide) (by decide) (by decide) ?_
  refine V_ast3 dL_law_19 rfl (by decide) ?_
  refine V_iconst (v := 0) dL_law_20 (by decide) ?_
  refine V_ist4 dL_law_21 rfl (by decide) ?_
  refine V_loose ?_
  have hx : rX 301 (xnw K2 300 (11, 1)) (xnw G2 300 fun _ => none) 3 := rX.go r1 (by decide) (fun k q1 q2 => ⟨by rw [xnw_n (by omega), fK2 k (by omega), xnw_n (by omega)], by rw [xnw_n (by omega), (fA2 k (by omega) (by omega)).1, xnw_n (by omega)]⟩)
  have hm : rM 301 (xnw K2 300 (11, 1)) (xnw G2 300 fun _ => none) 292 := rM.go r2 (by decide) (fun k q1 q2 => ⟨xnw_n (by omega), xnw_n (by omega)⟩)
  have hc : CRel (xnw M2 300 fun _ => 0) (xnw L2 300 fun _ => 0) 3 sNew := CRel.cong i1 (fun k q1 q2 => by rw [xnw_n (by omega), (fA2 k (by omega) (by omega)).2.1, xnw_n (by omega)]) (fun k q1 q2 => by rw [xnw_n (by omega), (fA2 k (by omega) (by omega)).2.2, xnw_n (by omega)])
  have hr : MRel (xnw M2 300 fun _ => 0) 292 sNew := MRel.cong i2 (fun k q1 q2 => xnw_n (by omega))
  exact L_loop hl9 hx hm (xIs.new (n := 300) (by decide) (by decide)) (by decide) (by decide) hN fin E.2.2.2.1 0 _ _ sNew none none none ⟨hc, hr, W_new⟩ (by omega) (by omega)
end C79

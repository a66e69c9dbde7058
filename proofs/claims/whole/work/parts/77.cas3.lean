/-! ===== the law: its cases: pass, set, setBorder, empty, undo, wouldBe, leastSize ===== -/
section C77
variable {E : xEnv} {l : Launch} {Q : xQ} {n o m u j c s T B : Nat} {K : xKnd} {G : xRef} {M : xMem} {L : xLng} {S : xSp}
theorem L_c_pass (hl9 : l.stackTraces = false) (hx : rX n K G o) (hm : rM n K G m) (hu : xIs n K u 11 1) (s1 : o + 288 < m) (s2 : m + 7 < u) (hi : LI M L o m S T B) (t1 : 10000 ≤ T) (t2 : T ≤ 240000) (b1 : 21600000 ≤ B) (b2 : B ≤ 200000000) (hcc : c + 1 ≤ 601024) (hss : s + 6 ≤ 7293034) (hj : 4 * j + 4 ≤ E.2.2.2.1) (hN : E.2.2.2.1 ≤ 2048)
    (next : ∀ M' L' S' o5 o6 o7, LI M' L' o m S' (T + 99) (B + 216000) → V E l Y_L_law Q (false, n, K, G, M', L') (c + 1, s + 6) 1720 [some (.ref 2), some (.ref o), some (.ref m), some (.ref u), some (.int (nI (4 * j))), o5, o6, o7] []) (o5 o6 o7 : Option Value) :
    V E l Y_L_law Q (false, n, K, G, M, L) (c, s) 843 [some (.ref 2), some (.ref o), some (.ref m), some (.ref u), some (.int (nI (4 * j))), o5, o6, o7] [] := by
  obtain ⟨hc, hr, hw⟩ := hi
  have hx0 := hx.1
  have hm0 := hm.1
  refine V_ald1 dL_law_843 ?_
  refine V_ald0 dL_law_844 ?_
  refine V_ild4 dL_law_845 ?_
  refine V_iconst (v := 1) dL_law_847 (by decide) ?_
  refine V_iadd dL_law_848 ?_
  refine V_ro2 (j := 4 * j + 1) (nI_add (4 * j) 1) (by omega) (by omega) dL_law_849 ?_
  refine V_ald3 dL_law_850 ?_
  refine V_csH (Y' := Y_L_pass) (As := [.ref o, .int (E.2.2.2.2 (4 * j + 1)), .ref u]) (rest := []) ml_L_152 (List.cons_ne_nil _ _) mc_L_pass mi_L hn_L_pass mt_L_pass dL_law_851 (c_L_pass hx hu (Or.inr (by omega)) hc _ (c_X5_pass hl9 hx hc hw (by omega) _)) (xFit.mk (by decide) (by decide) hcc hss) (Nat.le_of_ble_eq_true rfl) (fun o9 q9 hq9 => ?_)
  obtain ⟨x9, M1, L1, rfl, rfl, c1, f1, a1, k3⟩ := hq9
  refine V_loose ?_
  have r1 : MRel M1 m S := hr.cong (fun z q1 q2 => (f1 z (by omega) (by omega)).1)
  show V E l _ _ (false, n, K, G, M1, L1) (c + 1, s + 6) 854 _ [.int (nI (kdO (E.2.2.2.2 (4 * j + 1)) 1 99))]
  refine V_ist5 dL_law_854 rfl (by decide) ?_
  refine V_ald2 dL_law_856 ?_
  refine V_ald0 dL_law_857 ?_
  refine V_ild4 dL_law_858 ?_
  refine V_iconst (v := 1) dL_law_860 (by decide) ?_
  refine V_iadd dL_law_861 ?_
  refine V_ro2 (j := 4 * j + 1) (nI_add (4 * j) 1) (by omega) (by omega) dL_law_862 ?_
  refine V_cv1P lk_L_154 cc_X6_pass dL_law_863 hm0 (c_X6_pass hm r1 hw.1 _) (xFit.mk (by decide) (by decide) (by show c + 1 + 0 ≤ 601024; omega) (by show s + 6 + 0 ≤ 7293034; omega)) (Nat.le_of_ble_eq_true rfl) (fun o9 q9 hq9 => ?_)
  obtain ⟨b, M2, rfl, b9, rfl, r2, z2, f2⟩ := hq9
  have li : LI M2 L1 o m (if kdO (E.2.2.2.2 (4 * j + 1)) 1 99 = 0 then sNow (sPush S) (rGo S.2.2.1 (E.2.2.2.2 (4 * j + 1))) else S) (T + 99) (B + 216000) := ⟨c1.outM (fun z q1 q2 => f2 z (by omega)), r2, W_if (fun k0 => W_pass hw k0) (hw.mono (by omega) (by omega))⟩
  show V E l _ _ (false, n, K, G, M2, L1) (c + 1, s + 6) 866 _ [.int b]
  refine V_ist6 dL_law_866 rfl (by decide) ?_
  refine V_ald2 dL_law_868 ?_
  refine V_cv0R lk_L_104 cc_X6_thrown dL_law_869 hm0 (c_X6_thrown hm0) (xFit.mk (by decide) (by decide) (by show c + 1 + 0 ≤ 601024; omega) (by show s + 6 + 0 ≤ 7293034; omega)) rfl rfl (Nat.le_of_ble_eq_true rfl) ?_
  rw [z2]
  refine V_ild5 dL_law_872 ?_
  refine V_icmp_eq (tgt := 879) dL_law_874 (by decide) (fun h874 => ?_) (fun h874 => ?_)
  · refine V_ild5 dL_law_879 ?_
    refine V_if_ne (tgt := 896) dL_law_881 (by decide) (fun h881 => ?_) (fun h881 => ?_)
    · refine V_goto (tgt := 1720) dL_law_896 (by decide) ?_
      exact next _ _ _ _ _ _ li
    · refine V_ald3 dL_law_884 ?_
      refine V_iconst (v := 0) dL_law_885 (by decide) ?_
      refine V_lald (j := 0) dL_law_886 (by assumption) (by decide) (by decide) ?_
      refine V_ild6 dL_law_887 ?_
      refine V_i2l dL_law_889 ?_
      refine V_lcmp dL_law_890 ?_
      refine V_if_eq (tgt := 896) dL_law_891 (by decide) (fun h891 => ?_) (fun h891 => ?_)
      · refine V_goto (tgt := 1720) dL_law_896 (by decide) ?_
        exact next _ _ _ _ _ _ li
      · exact absurd ((lg_cmp_eq _ _).mpr (by rw [a1 (nI_03 k3 h881), b9 (nI_03 k3 h881)])) h891
  · exact absurd rfl h874
theorem L_c_set (hl9 : l.stackTraces = false) (hx : rX n K G o) (hm : rM n K G m) (hu : xIs n K u 11 1) (s1 : o + 288 < m) (s2 : m + 7 < u) (hi : LI M L o m S T B) (t1 : 10000 ≤ T) (t2 : T ≤ 240000) (b1 : 21600000 ≤ B) (b2 : B ≤ 200000000) (hcc : c + 1 ≤ 601024) (hss : s + 6 ≤ 7293034) (hj : 4 * j + 4 ≤ E.2.2.2.1) (hN : E.2.2.2.1 ≤ 2048)
    (next : ∀ M' L' S' o5 o6 o7, LI M' L' o m S' (T + 99) (B + 216000) → V E l Y_L_law Q (false, n, K, G, M', L') (c + 1, s + 6) 1720 [some (.ref 2), some (.ref o), some (.ref m), some (.ref u), some (.int (nI (4 * j))), o5, o6, o7] []) (o5 o6 o7 : Option Value) :
    V E l Y_L_law Q (false, n, K, G, M, L) (c, s) 899 [some (.ref 2), some (.ref o), some (.ref m), some (.ref u), some (.int (nI (4 * j))), o5, o6, o7] [] := by
  obtain ⟨hc, hr, hw⟩ := hi
  have hx0 := hx.1
  have hm0 := hm.1
  refine V_ald1 dL_law_899 ?_
  refine V_ald0 dL_law_900 ?_
  refine V_ild4 dL_law_901 ?_
  refine V_iconst (v := 1) dL_law_903 (by decide) ?_
  refine V_iadd dL_law_904 ?_
  refine V_ro2 (j := 4 * j + 1) (nI_add (4 * j) 1) (by omega) (by omega) dL_law_905 ?_
  refine V_ald0 dL_law_906 ?_
  refine V_ild4 dL_law_907 ?_
  refine V_iconst (v := 2) dL_law_909 (by decide) ?_
  refine V_iadd dL_law_910 ?_
  refine V_ro2 (j := 4 * j + 2) (nI_add (4 * j) 2) (by omega) (by omega) dL_law_911 ?_
  refine V_ald3 dL_law_912 ?_
  refine V_csH (Y' := Y_L_set) (As := [.ref o, .int (E.2.2.2.2 (4 * j + 1)), .int (E.2.2.2.2 (4 * j + 2)), .ref u]) (rest := []) ml_L_155 (List.cons_ne_nil _ _) mc_L_set mi_L hn_L_set mt_L_set dL_law_913 (c_L_set hx hu (Or.inr (by omega)) hc _ _ (c_X5_set hl9 hx hc hw _ _)) (xFit.mk (by decide) (by decide) hcc hss) (Nat.le_of_ble_eq_true rfl) (fun o9 q9 hq9 => ?_)
  obtain ⟨x9, M1, L1, rfl, rfl, c1, f1, a1, k3⟩ := hq9
  refine V_loose ?_
  have r1 : MRel M1 m S := hr.cong (fun z q1 q2 => (f1 z (by omega) (by omega)).1)
  show V E l _ _ (false, n, K, G, M1, L1) (c + 1, s + 6) 916 _ [.int (nI (kdSet (E.2.2.2.2 (4 * j + 1)) (E.2.2.2.2 (4 * j + 2))))]
  refine V_ist5 dL_law_916 rfl (by decide) ?_
  refine V_ald2 dL_law_918 ?_
  refine V_ald0 dL_law_919 ?_
  refine V_ild4 dL_law_920 ?_
  refine V_iconst (v := 1) dL_law_922 (by decide) ?_
  refine V_iadd dL_law_923 ?_
  refine V_ro2 (j := 4 * j + 1) (nI_add (4 * j) 1) (by omega) (by omega) dL_law_924 ?_
  refine V_ald0 dL_law_925 ?_
  refine V_ild4 dL_law_926 ?_
  refine V_iconst (v := 2) dL_law_928 (by decide) ?_
  refine V_iadd dL_law_929 ?_
  refine V_ro2 (j := 4 * j + 2) (nI_add (4 * j) 2) (by omega) (by omega) dL_law_930 ?_
  refine V_cv2P lk_L_157 cc_X6_set dL_law_931 hm0 (c_X6_set hm r1 _ _) (xFit.mk (by decide) (by decide) (by show c + 1 + 0 ≤ 601024; omega) (by show s + 6 + 0 ≤ 7293034; omega)) (Nat.le_of_ble_eq_true rfl) (fun o9 q9 hq9 => ?_)
  obtain ⟨b, M2, rfl, b9, rfl, r2, z2, f2⟩ := hq9
  have li : LI M2 L1 o m (if kdSet (E.2.2.2.2 (4 * j + 1)) (E.2.2.2.2 (4 * j + 2)) = 0 then sNow (sPush S) (upR S.2.2.1 (1 + Int32.toNatClampNeg (E.2.2.2.2 (4 * j + 1))) (E.2.2.2.2 (4 * j + 2))) else S) (T + 99) (B + 216000) := ⟨c1.outM (fun z q1 q2 => f2 z (by omega)), r2, W_if (fun k0 => W_set hw k0) (hw.mono (by omega) (by omega))⟩
  show V E l _ _ (false, n, K, G, M2, L1) (c + 1, s + 6) 934 _ [.int b]
  refine V_ist6 dL_law_934 rfl (by decide) ?_
  refine V_ald2 dL_law_936 ?_
  refine V_cv0R lk_L_104 cc_X6_thrown dL_law_937 hm0 (c_X6_thrown hm0) (xFit.mk (by decide) (by decide) (by show c + 1 + 0 ≤ 601024; omega) (by show s + 6 + 0 ≤ 7293034; omega)) rfl rfl (Nat.le_of_ble_eq_true rfl) ?_
  rw [z2]
  refine V_ild5 dL_law_940 ?_
  refine V_icmp_eq (tgt := 947) dL_law_942 (by decide) (fun h942 => ?_) (fun h942 => ?_)
  · refine V_ild5 dL_law_947 ?_
    refine V_if_ne (tgt := 964) dL_law_949 (by decide) (fun h949 => ?_) (fun h949 => ?_)
    · refine V_goto (tgt := 1720) dL_law_964 (by decide) ?_
      exact next _ _ _ _ _ _ li
    · refine V_ald3 dL_law_952 ?_
      refine V_iconst (v := 0) dL_law_953 (by decide) ?_
      refine V_lald (j := 0) dL_law_954 (by assumption) (by decide) (by decide) ?_
      refine V_ild6 dL_law_955 ?_
      refine V_i2l dL_law_957 ?_
      refine V_lcmp dL_law_958 ?_
      refine V_if_eq (tgt := 964) dL_law_959 (by decide) (fun h959 => ?_) (fun h959 => ?_)
      · refine V_goto (tgt := 1720) dL_law_964 (by decide) ?_
        exact next _ _ _ _ _ _ li
      · exact absurd ((lg_cmp_eq _ _).mpr (by rw [a1 (nI_03 k3 h949), b9 (nI_03 k3 h949)])) h959
  · exact absurd rfl h942
theorem L_c_setBorder (hl9 : l.stackTraces = false) (hx : rX n K G o) (hm : rM n K G m) (hu : xIs n K u 11 1) (s1 : o + 288 < m) (s2 : m + 7 < u) (hi : LI M L o m S T B) (t1 : 10000 ≤ T) (t2 : T ≤ 240000) (b1 : 21600000 ≤ B) (b2 : B ≤ 200000000) (hcc : c + 1 ≤ 601024) (hss : s + 6 ≤ 7293034) (hj : 4 * j + 4 ≤ E.2.2.2.1) (hN : E.2.2.2.1 ≤ 2048)
    (next : ∀ M' L' S' o5 o6 o7, LI M' L' o m S' (T + 99) (B + 216000) → V E l Y_L_law Q (false, n, K, G, M', L') (c + 1, s + 6) 1720 [some (.ref 2), some (.ref o), some (.ref m), some (.ref u), some (.int (nI (4 * j))), o5, o6, o7] []) (o5 o6 o7 : Option Value) :
    V E l Y_L_law Q (false, n, K, G, M, L) (c, s) 967 [some (.ref 2), some (.ref o), some (.ref m), some (.ref u), some (.int (nI (4 * j))), o5, o6, o7] [] := by
  obtain ⟨hc, hr, hw⟩ := hi
  have hx0 := hx.1
  have hm0 := hm.1
  refine V_ald1 dL_law_967 ?_
  refine V_ald0 dL_law_968 ?_
  refine V_ild4 dL_law_969 ?_
  refine V_iconst (v := 1) dL_law_971 (by decide) ?_
  refine V_iadd dL_law_972 ?_
  refine V_ro2 (j := 4 * j + 1) (nI_add (4 * j) 1) (by omega) (by omega) dL_law_973 ?_
  refine V_ald0 dL_law_974 ?_
  refine V_ild4 dL_law_975 ?_
  refine V_iconst (v := 2) dL_law_977 (by decide) ?_
  refine V_iadd dL_law_978 ?_
  refine V_ro2 (j := 4 * j + 2) (nI_add (4 * j) 2) (by omega) (by omega) dL_law_979 ?_
  refine V_ald3 dL_law_980 ?_
  refine V_csH (Y' := Y_L_setBorder) (As := [.ref o, .int (E.2.2.2.2 (4 * j + 1)), .int (E.2.2.2.2 (4 * j + 2)), .ref u]) (rest := []) ml_L_158 (List.cons_ne_nil _ _) mc_L_setBorder mi_L hn_L_setBorder mt_L_setBorder dL_law_981 (c_L_setBorder hx hu (Or.inr (by omega)) hc _ _ (c_X5_setBorder hl9 hx hc hw _ _)) (xFit.mk (by decide) (by decide) hcc hss) (Nat.le_of_ble_eq_true rfl) (fun o9 q9 hq9 => ?_)
  obtain ⟨x9, M1, L1, rfl, rfl, c1, f1, a1, k3⟩ := hq9
  refine V_loose ?_
  have r1 : MRel M1 m S := hr.cong (fun z q1 q2 => (f1 z (by omega) (by omega)).1)
  show V E l _ _ (false, n, K, G, M1, L1) (c + 1, s + 6) 984 _ [.int (nI (kdBor S.2.2.1 (E.2.2.2.2 (4 * j + 1)) (E.2.2.2.2 (4 * j + 2))))]
  refine V_ist5 dL_law_984 rfl (by decide) ?_
  refine V_ald2 dL_law_986 ?_
  refine V_ald0 dL_law_987 ?_
  refine V_ild4 dL_law_988 ?_
  refine V_iconst (v := 1) dL_law_990 (by decide) ?_
  refine V_iadd dL_law_991 ?_
  refine V_ro2 (j := 4 * j + 1) (nI_add (4 * j) 1) (by omega) (by omega) dL_law_992 ?_
  refine V_ald0 dL_law_993 ?_
  refine V_ild4 dL_law_994 ?_
  refine V_iconst (v := 2) dL_law_996 (by decide) ?_
  refine V_iadd dL_law_997 ?_
  refine V_ro2 (j := 4 * j + 2) (nI_add (4 * j) 2) (by omega) (by omega) dL_law_998 ?_
  refine V_cv2P lk_L_160 cc_X6_setBorder dL_law_999 hm0 (c_X6_setBorder hm r1 _ _) (xFit.mk (by decide) (by decide) (by show c + 1 + 0 ≤ 601024; omega) (by show s + 6 + 0 ≤ 7293034; omega)) (Nat.le_of_ble_eq_true rfl) (fun o9 q9 hq9 => ?_)
  obtain ⟨b, M2, rfl, b9, rfl, r2, z2, f2⟩ := hq9
  have li : LI M2 L1 o m (if kdBor S.2.2.1 (E.2.2.2.2 (4 * j + 1)) (E.2.2.2.2 (4 * j + 2)) = 0 then sNow (sPush S) (upR S.2.2.1 (15 + Int32.toNatClampNeg (E.2.2.2.2 (4 * j + 1))) (E.2.2.2.2 (4 * j + 2))) else S) (T + 99) (B + 216000) := ⟨c1.outM (fun z q1 q2 => f2 z (by omega)), r2, W_if (fun k0 => W_bor hw k0) (hw.mono (by omega) (by omega))⟩
  show V E l _ _ (false, n, K, G, M2, L1) (c + 1, s + 6) 1002 _ [.int b]
  refine V_ist6 dL_law_1002 rfl (by decide) ?_
  refine V_ald2 dL_law_1004 ?_
  refine V_cv0R lk_L_104 cc_X6_thrown dL_law_1005 hm0 (c_X6_thrown hm0) (xFit.mk (by decide) (by decide) (by show c + 1 + 0 ≤ 601024; omega) (by show s + 6 + 0 ≤ 7293034; omega)) rfl rfl (Nat.le_of_ble_eq_true rfl) ?_
  rw [z2]
  refine V_ild5 dL_law_1008 ?_
  refine V_icmp_eq (tgt := 1015) dL_law_1010 (by decide) (fun h1010 => ?_) (fun h1010 => ?_)
  · refine V_ild5 dL_law_1015 ?_
    refine V_if_ne (tgt := 1032) dL_law_1017 (by decide) (fun h1017 => ?_) (fun h1017 => ?_)
    · refine V_goto (tgt := 1720) dL_law_1032 (by decide) ?_
      exact next _ _ _ _ _ _ li
    · refine V_ald3 dL_law_1020 ?_
      refine V_iconst (v := 0) dL_law_1021 (by decide) ?_
      refine V_lald (j := 0) dL_law_1022 (by assumption) (by decide) (by decide) ?_
      refine V_ild6 dL_law_1023 ?_
      refine V_i2l dL_law_1025 ?_
      refine V_lcmp dL_law_1026 ?_
      refine V_if_eq (tgt := 1032) dL_law_1027 (by decide) (fun h1027 => ?_) (fun h1027 => ?_)
      · refine V_goto (tgt := 1720) dL_law_1032 (by decide) ?_
        exact next _ _ _ _ _ _ li
      · exact absurd ((lg_cmp_eq _ _).mpr (by rw [a1 (nI_03 k3 h1017), b9 (nI_03 k3 h1017)])) h1027
  · exact absurd rfl h1010
theorem L_c_empty (hl9 : l.stackTraces = false) (hx : rX n K G o) (hm : rM n K G m) (hu : xIs n K u 11 1) (s1 : o + 288 < m) (s2 : m + 7 < u) (hi : LI M L o m S T B) (t1 : 10000 ≤ T) (t2 : T ≤ 240000) (b1 : 21600000 ≤ B) (b2 : B ≤ 200000000) (hcc : c + 1 ≤ 601024) (hss : s + 6 ≤ 7293034) (hj : 4 * j + 4 ≤ E.2.2.2.1) (hN : E.2.2.2.1 ≤ 2048)
    (next : ∀ M' L' S' o5 o6 o7, LI M' L' o m S' (T + 99) (B + 216000) → V E l Y_L_law Q (false, n, K, G, M', L') (c + 1, s + 6) 1720 [some (.ref 2), some (.ref o), some (.ref m), some (.ref u), some (.int (nI (4 * j))), o5, o6, o7] []) (o5 o6 o7 : Option Value) :
    V E l Y_L_law Q (false, n, K, G, M, L) (c, s) 1035 [some (.ref 2), some (.ref o), some (.ref m), some (.ref u), some (.int (nI (4 * j))), o5, o6, o7] [] := by
  obtain ⟨hc, hr, hw⟩ := hi
  have hx0 := hx.1
  have hm0 := hm.1
  refine V_ald1 dL_law_1035 ?_
  refine V_cv0P lk_L_161 cc_X5_empty dL_law_1036 hx0 (c_X5_empty hx hc hw) (xFit.mk (by decide) (by decide) (by show c + 0 ≤ 601024; omega) (by show s + 0 ≤ 7293034; omega)) (Nat.le_of_ble_eq_true rfl) (fun o9 q9 hq9 => ?_)
  obtain ⟨-, rfl, M1, L1, rfl, c1, f1⟩ := hq9
  have r1 : MRel M1 m S := hr.cong (fun z q1 q2 => funext (f1 z (by omega)).1)
  show V E l _ _ (false, n, K, G, M1, L1) (c, s) 1039 _ [.int (rInB S.2.2.1 0)]
  refine V_ald2 dL_law_1039 ?_
  refine V_cv0P lk_L_164 cc_X6_empty dL_law_1040 hm0 (c_X6_empty hm r1) (xFit.mk (by decide) (by decide) (by show c + 0 ≤ 601024; omega) (by show s + 0 ≤ 7293034; omega)) (Nat.le_of_ble_eq_true rfl) (fun o9 q9 hq9 => ?_)
  obtain ⟨b, M2, rfl, b9, rfl, r2, z2, f2⟩ := hq9
  have li : LI M2 L1 o m (sNow (sPush S) (rEmp S.2.2.1)) (T + 99) (B + 216000) := ⟨c1.outM (fun z q1 q2 => f2 z (by omega)), r2, W_empty hw⟩
  show V E l _ _ (false, n, K, G, M2, L1) (c, s) 1043 _ [.int b, .int (rInB S.2.2.1 0)]
  refine V_icmp_eq (tgt := 1720) dL_law_1043 (by decide) (fun h1043 => ?_) (fun h1043 => ?_)
  · exact V_widen (k := c + 1) (n := s + 6) (Nat.le_succ c) (Nat.le_add_right s 6) (next _ _ _ _ _ _ li)
  · exact absurd (b9 rfl).symm h1043
theorem L_c_undo (hl9 : l.stackTraces = false) (hx : rX n K G o) (hm : rM n K G m) (hu : xIs n K u 11 1) (s1 : o + 288 < m) (s2 : m + 7 < u) (hi : LI M L o m S T B) (t1 : 10000 ≤ T) (t2 : T ≤ 240000) (b1 : 21600000 ≤ B) (b2 : B ≤ 200000000) (hcc : c + 1 ≤ 601024) (hss : s + 6 ≤ 7293034) (hj : 4 * j + 4 ≤ E.2.2.2.1) (hN : E.2.2.2.1 ≤ 2048)
    (next : ∀ M' L' S' o5 o6 o7, LI M' L' o m S' (T + 99) (B + 216000) → V E l Y_L_law Q (false, n, K, G, M', L') (c + 1, s + 6) 1720 [some (.ref 2), some (.ref o), some (.ref m), some (.ref u), some (.int (nI (4 * j))), o5, o6, o7] []) (o5 o6 o7 : Option Value) :
    V E l Y_L_law Q (false, n, K, G, M, L) (c, s) 1048 [some (.ref 2), some (.ref o), some (.ref m), some (.ref u), some (.int (nI (4 * j))), o5, o6, o7] [] := by
  obtain ⟨hc, hr, hw⟩ := hi
  have hx0 := hx.1
  have hm0 := hm.1
  refine V_ald1 dL_law_1048 ?_
  refine V_ald3 dL_law_1049 ?_
  refine V_csH (Y' := Y_L_undo) (As := [.ref o, .ref u]) (rest := []) ml_L_165 (List.cons_ne_nil _ _) mc_L_undo mi_L hn_L_undo mt_L_undo dL_law_1050 (c_L_undo hx hu (Or.inr (by omega)) hc (c_X5_undo hl9 hx hc hw)) (xFit.mk (by decide) (by decide) hcc hss) (Nat.le_of_ble_eq_true rfl) (fun o9 q9 hq9 => ?_)
  obtain ⟨x9, M1, L1, rfl, rfl, c1, f1, a1, k3⟩ := hq9
  refine V_loose ?_
  have r1 : MRel M1 m S := hr.cong (fun z q1 q2 => (f1 z (by omega) (by omega)).1)
  show V E l _ _ (false, n, K, G, M1, L1) (c + 1, s + 6) 1053 _ [.int (nI ((if S.2.2.2.1 = 0 then 1 else 0)))]
  refine V_ist5 dL_law_1053 rfl (by decide) ?_
  refine V_ald2 dL_law_1055 ?_
  refine V_cv0P lk_L_167 cc_X6_undo dL_law_1056 hm0 (c_X6_undo hm r1) (xFit.mk (by decide) (by decide) (by show c + 1 + 0 ≤ 601024; omega) (by show s + 6 + 0 ≤ 7293034; omega)) (Nat.le_of_ble_eq_true rfl) (fun o9 q9 hq9 => ?_)
  obtain ⟨b, M2, rfl, b9, rfl, r2, z2, f2⟩ := hq9
  have li : LI M2 L1 o m (if (if S.2.2.2.1 = 0 then 1 else 0) = 0 then sPop S else S) (T + 99) (B + 216000) := ⟨c1.outM (fun z q1 q2 => f2 z (by omega)), r2, W_if (fun k0 => W_undo hw k0) (hw.mono (by omega) (by omega))⟩
  show V E l _ _ (false, n, K, G, M2, L1) (c + 1, s + 6) 1059 _ [.int b]
  refine V_ist6 dL_law_1059 rfl (by decide) ?_
  refine V_ald2 dL_law_1061 ?_
  refine V_cv0R lk_L_104 cc_X6_thrown dL_law_1062 hm0 (c_X6_thrown hm0) (xFit.mk (by decide) (by decide) (by show c + 1 + 0 ≤ 601024; omega) (by show s + 6 + 0 ≤ 7293034; omega)) rfl rfl (Nat.le_of_ble_eq_true rfl) ?_
  rw [z2]
  refine V_ild5 dL_law_1065 ?_
  refine V_icmp_eq (tgt := 1072) dL_law_1067 (by decide) (fun h1067 => ?_) (fun h1067 => ?_)
  · refine V_ild5 dL_law_1072 ?_
    refine V_if_ne (tgt := 1089) dL_law_1074 (by decide) (fun h1074 => ?_) (fun h1074 => ?_)
    · refine V_goto (tgt := 1720) dL_law_1089 (by decide) ?_
      exact next _ _ _ _ _ _ li
    · refine V_ald3 dL_law_1077 ?_
      refine V_iconst (v := 0) dL_law_1078 (by decide) ?_
      refine V_lald (j := 0) dL_law_1079 (by assumption) (by decide) (by decide) ?_
      refine V_ild6 dL_law_1080 ?_
      refine V_i2l dL_law_1082 ?_
      refine V_lcmp dL_law_1083 ?_
      refine V_if_eq (tgt := 1089) dL_law_1084 (by decide) (fun h1084 => ?_) (fun h1084 => ?_)
      · refine V_goto (tgt := 1720) dL_law_1089 (by decide) ?_
        exact next _ _ _ _ _ _ li
      · exact absurd ((lg_cmp_eq _ _).mpr (by rw [a1 (nI_03 k3 h1074), b9 (nI_03 k3 h1074)])) h1084
  · exact absurd rfl h1067
theorem L_c_wouldBe (hl9 : l.stackTraces = false) (hx : rX n K G o) (hm : rM n K G m) (hu : xIs n K u 11 1) (s1 : o + 288 < m) (s2 : m + 7 < u) (hi : LI M L o m S T B) (t1 : 10000 ≤ T) (t2 : T ≤ 240000) (b1 : 21600000 ≤ B) (b2 : B ≤ 200000000) (hcc : c + 1 ≤ 601024) (hss : s + 6 ≤ 7293034) (hj : 4 * j + 4 ≤ E.2.2.2.1) (hN : E.2.2.2.1 ≤ 2048)
    (next : ∀ M' L' S' o5 o6 o7, LI M' L' o m S' (T + 99) (B + 216000) → V E l Y_L_law Q (false, n, K, G, M', L') (c + 1, s + 6) 1720 [some (.ref 2), some (.ref o), some (.ref m), some (.ref u), some (.int (nI (4 * j))), o5, o6, o7] []) (o5 o6 o7 : Option Value) :
    V E l Y_L_law Q (false, n, K, G, M, L) (c, s) 1092 [some (.ref 2), some (.ref o), some (.ref m), some (.ref u), some (.int (nI (4 * j))), o5, o6, o7] [] := by
  obtain ⟨hc, hr, hw⟩ := hi
  have hx0 := hx.1
  have hm0 := hm.1
  refine V_ald1 dL_law_1092 ?_
  refine V_ald0 dL_law_1093 ?_
  refine V_ild4 dL_law_1094 ?_
  refine V_iconst (v := 1) dL_law_1096 (by decide) ?_
  refine V_iadd dL_law_1097 ?_
  refine V_ro2 (j := 4 * j + 1) (nI_add (4 * j) 1) (by omega) (by omega) dL_law_1098 ?_
  refine V_ald0 dL_law_1099 ?_
  refine V_ild4 dL_law_1100 ?_
  refine V_iconst (v := 2) dL_law_1102 (by decide) ?_
  refine V_iadd dL_law_1103 ?_
  refine V_ro2 (j := 4 * j + 2) (nI_add (4 * j) 2) (by omega) (by omega) dL_law_1104 ?_
  refine V_ald3 dL_law_1105 ?_
  refine V_csH (Y' := Y_L_wouldBe) (As := [.ref o, .int (E.2.2.2.2 (4 * j + 1)), .int (E.2.2.2.2 (4 * j + 2)), .ref u]) (rest := []) ml_L_168 (List.cons_ne_nil _ _) mc_L_wouldBe mi_L hn_L_wouldBe mt_L_wouldBe dL_law_1106 (c_L_wouldBe hx hu (Or.inr (by omega)) hc _ _ ((c_X5_wouldBe hl9 hx hc hw (by omega) _ _).weak (xW_G hc) (fun _ _ q => q))) (xFit.mk (by decide) (by decide) hcc hss) (Nat.le_of_ble_eq_true rfl) (fun o9 q9 hq9 => ?_)
  obtain ⟨x9, M1, L1, rfl, rfl, c1, f1, a1, k3⟩ := hq9
  refine V_loose ?_
  have r1 : MRel M1 m S := hr.cong (fun z q1 q2 => (f1 z (by omega) (by omega)).1)
  show V E l _ _ (false, n, K, G, M1, L1) (c + 1, s + 6) 1109 _ [.int (nI (kdFall (E.2.2.2.2 (4 * j + 1)) (E.2.2.2.2 (4 * j + 2))))]
  refine V_ist5 dL_law_1109 rfl (by decide) ?_
  refine V_ald2 dL_law_1111 ?_
  refine V_ald0 dL_law_1112 ?_
  refine V_ild4 dL_law_1113 ?_
  refine V_iconst (v := 1) dL_law_1115 (by decide) ?_
  refine V_iadd dL_law_1116 ?_
  refine V_ro2 (j := 4 * j + 1) (nI_add (4 * j) 1) (by omega) (by omega) dL_law_1117 ?_
  refine V_ald0 dL_law_1118 ?_
  refine V_ild4 dL_law_1119 ?_
  refine V_iconst (v := 2) dL_law_1121 (by decide) ?_
  refine V_iadd dL_law_1122 ?_
  refine V_ro2 (j := 4 * j + 2) (nI_add (4 * j) 2) (by omega) (by omega) dL_law_1123 ?_
  refine V_cv2P lk_L_170 cc_X6_wouldBe dL_law_1124 hm0 (c_X6_wouldBe hm r1 hw.1 _ _) (xFit.mk (by decide) (by decide) (by show c + 1 + 0 ≤ 601024; omega) (by show s + 6 + 0 ≤ 7293034; omega)) (Nat.le_of_ble_eq_true rfl) (fun o9 q9 hq9 => ?_)
  obtain ⟨b, M2, rfl, b9, rfl, r2, z2, f2⟩ := hq9
  have li : LI M2 L1 o m (if kdFall (E.2.2.2.2 (4 * j + 1)) (E.2.2.2.2 (4 * j + 2)) = 0 then S else S) (T + 99) (B + 216000) := ⟨c1.outM (fun z q1 q2 => f2 z (by omega)), (by rw [ite_self]; exact r2), (by rw [ite_self]; exact hw.mono (by omega) (by omega))⟩
  show V E l _ _ (false, n, K, G, M2, L1) (c + 1, s + 6) 1127 _ [.int b]
  refine V_ist6 dL_law_1127 rfl (by decide) ?_
  refine V_ald2 dL_law_1129 ?_
  refine V_cv0R lk_L_104 cc_X6_thrown dL_law_1130 hm0 (c_X6_thrown hm0) (xFit.mk (by decide) (by decide) (by show c + 1 + 0 ≤ 601024; omega) (by show s + 6 + 0 ≤ 7293034; omega)) rfl rfl (Nat.le_of_ble_eq_true rfl) ?_
  rw [z2]
  refine V_ild5 dL_law_1133 ?_
  refine V_icmp_eq (tgt := 1140) dL_law_1135 (by decide) (fun h1135 => ?_) (fun h1135 => ?_)
  · refine V_ild5 dL_law_1140 ?_
    refine V_if_ne (tgt := 1157) dL_law_1142 (by decide) (fun h1142 => ?_) (fun h1142 => ?_)
    · refine V_goto (tgt := 1720) dL_law_1157 (by decide) ?_
      exact next _ _ _ _ _ _ li
    · refine V_ald3 dL_law_1145 ?_
      refine V_iconst (v := 0) dL_law_1146 (by decide) ?_
      refine V_lald (j := 0) dL_law_1147 (by assumption) (by decide) (by decide) ?_
      refine V_ild6 dL_law_1148 ?_
      refine V_i2l dL_law_1150 ?_
      refine V_lcmp dL_law_1151 ?_
      refine V_if_eq (tgt := 1157) dL_law_1152 (by decide) (fun h1152 => ?_) (fun h1152 => ?_)
      · refine V_goto (tgt := 1720) dL_law_1157 (by decide) ?_
        exact next _ _ _ _ _ _ li
      · exact absurd ((lg_cmp_eq _ _).mpr (by rw [a1 (nI_03 k3 h1142), b9 (nI_03 k3 h1142)])) h1152
  · exact absurd rfl h1135
theorem L_c_leastSize (hl9 : l.stackTraces = false) (hx : rX n K G o) (hm : rM n K G m) (hu : xIs n K u 11 1) (s1 : o + 288 < m) (s2 : m + 7 < u) (hi : LI M L o m S T B) (t1 : 10000 ≤ T) (t2 : T ≤ 240000) (b1 : 21600000 ≤ B) (b2 : B ≤ 200000000) (hcc : c + 1 ≤ 601024) (hss : s + 6 ≤ 7293034) (hj : 4 * j + 4 ≤ E.2.2.2.1) (hN : E.2.2.2.1 ≤ 2048)
    (next : ∀ M' L' S' o5 o6 o7, LI M' L' o m S' (T + 99) (B + 216000) → V E l Y_L_law Q (false, n, K, G, M', L') (c + 1, s + 6) 1720 [some (.ref 2), some (.ref o), some (.ref m), some (.ref u), some (.int (nI (4 * j))), o5, o6, o7] []) (o5 o6 o7 : Option Value) :
    V E l Y_L_law Q (false, n, K, G, M, L) (c, s) 1160 [some (.ref 2), some (.ref o), some (.ref m), some (.ref u), some (.int (nI (4 * j))), o5, o6, o7] [] := by
  obtain ⟨hc, hr, hw⟩ := hi
  have hx0 := hx.1
  have hm0 := hm.1
  refine V_ald1 dL_law_1160 ?_
  refine V_ald0 dL_law_1161 ?_
  refine V_ild4 dL_law_1162 ?_
  refine V_iconst (v := 1) dL_law_1164 (by decide) ?_
  refine V_iadd dL_law_1165 ?_
  refine V_ro2 (j := 4 * j + 1) (nI_add (4 * j) 1) (by omega) (by omega) dL_law_1166 ?_
  refine V_ald3 dL_law_1167 ?_
  refine V_csH (Y' := Y_L_leastSize) (As := [.ref o, .int (E.2.2.2.2 (4 * j + 1)), .ref u]) (rest := []) ml_L_171 (List.cons_ne_nil _ _) mc_L_leastSize mi_L hn_L_leastSize mt_L_leastSize dL_law_1168 (c_L_leastSize hx hu (Or.inr (by omega)) hc _ ((c_X5_leastSize hl9 hx hc hw (by omega) _).weak (xW_G hc) (fun _ _ q => q))) (xFit.mk (by decide) (by decide) hcc hss) (Nat.le_of_ble_eq_true rfl) (fun o9 q9 hq9 => ?_)
  obtain ⟨x9, M1, L1, rfl, rfl, c1, f1, a1, k3⟩ := hq9
  refine V_loose ?_
  have r1 : MRel M1 m S := hr.cong (fun z q1 q2 => (f1 z (by omega) (by omega)).1)
  show V E l _ _ (false, n, K, G, M1, L1) (c + 1, s + 6) 1171 _ [.int (nI (kdO (E.2.2.2.2 (4 * j + 1)) 0 99))]
  refine V_ist5 dL_law_1171 rfl (by decide) ?_
  refine V_ald2 dL_law_1173 ?_
  refine V_ald0 dL_law_1174 ?_
  refine V_ild4 dL_law_1175 ?_
  refine V_iconst (v := 1) dL_law_1177 (by decide) ?_
  refine V_iadd dL_law_1178 ?_
  refine V_ro2 (j := 4 * j + 1) (nI_add (4 * j) 1) (by omega) (by omega) dL_law_1179 ?_
  refine V_cv1P lk_L_173 cc_X6_leastSize dL_law_1180 hm0 (c_X6_leastSize hm r1 hw.1 _) (xFit.mk (by decide) (by decide) (by show c + 1 + 0 ≤ 601024; omega) (by show s + 6 + 0 ≤ 7293034; omega)) (Nat.le_of_ble_eq_true rfl) (fun o9 q9 hq9 => ?_)
  obtain ⟨b, M2, rfl, b9, rfl, r2, z2, f2⟩ := hq9
  have li : LI M2 L1 o m (if kdO (E.2.2.2.2 (4 * j + 1)) 0 99 = 0 then S else S) (T + 99) (B + 216000) := ⟨c1.outM (fun z q1 q2 => f2 z (by omega)), (by rw [ite_self]; exact r2), (by rw [ite_self]; exact hw.mono (by omega) (by omega))⟩
  show V E l _ _ (false, n, K, G, M2, L1) (c + 1, s + 6) 1183 _ [.int b]
  refine V_ist6 dL_law_1183 rfl (by decide) ?_
  refine V_ald2 dL_law_1185 ?_
  refine V_cv0R lk_L_104 cc_X6_thrown dL_law_1186 hm0 (c_X6_thrown hm0) (xFit.mk (by decide) (by decide) (by show c + 1 + 0 ≤ 601024; omega) (by show s + 6 + 0 ≤ 7293034; omega)) rfl rfl (Nat.le_of_ble_eq_true rfl) ?_
  rw [z2]
  refine V_ild5 dL_law_1189 ?_
  refine V_icmp_eq (tgt := 1196) dL_law_1191 (by decide) (fun h1191 => ?_) (fun h1191 => ?_)
  · refine V_ild5 dL_law_1196 ?_
    refine V_if_ne (tgt := 1213) dL_law_1198 (by decide) (fun h1198 => ?_) (fun h1198 => ?_)
    · refine V_goto (tgt := 1720) dL_law_1213 (by decide) ?_
      exact next _ _ _ _ _ _ li
    · refine V_ald3 dL_law_1201 ?_
      refine V_iconst (v := 0) dL_law_1202 (by decide) ?_
      refine V_lald (j := 0) dL_law_1203 (by assumption) (by decide) (by decide) ?_
      refine V_ild6 dL_law_1204 ?_
      refine V_i2l dL_law_1206 ?_
      refine V_lcmp dL_law_1207 ?_
      refine V_if_eq (tgt := 1213) dL_law_1208 (by decide) (fun h1208 => ?_) (fun h1208 => ?_)
      · refine V_goto (tgt := 1720) dL_law_1213 (by decide) ?_
        exact next _ _ _ _ _ _ li
      · exact absurd ((lg_cmp_eq _ _).mpr (by rw [a1 (nI_03 k3 h1198), b9 (nI_03 k3 h1198)])) h1208
  · exact absurd rfl h1191
end C77

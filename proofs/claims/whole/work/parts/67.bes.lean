/-! ===== the reference: the best window ===== -/
section P67
variable {R Q : xRow} {T B : Nat}
theorem aBest_nn (R : xRow) (law : Int32) : ∀ k, 1 ≤ k → ∃ j, j < k ∧ (aBest R law k).1 = nI j
  | 0, h => absurd h (by decide)
  | k + 1, _ => by
    rw [aBest]
    by_cases c : k = 0 ∨ rErr R law (nI k) < (aBest R law k).2
    · rw [if_pos c]; exact ⟨k, by omega, rfl⟩
    · rw [if_neg c]
      obtain ⟨j, h1, h2⟩ := aBest_nn R law k (Nat.pos_of_ne_zero fun q => c (Or.inl q))
      exact ⟨j, by omega, h2⟩
theorem absE {a : Int64} : (if 0 < a then a else -a) = (if a < 0 then -a else a) := by
  by_cases c : a < 0
  · rw [if_pos c, if_neg (fun q => absurd (Int64.lt_trans c q) (Int64.lt_irrefl))]
  · rw [if_neg c]
    by_cases d : 0 < a
    · rw [if_pos d]
    · rw [if_neg d, show a = 0 from Int64.le_antisymm (Int64.not_lt.mp d) (Int64.not_lt.mp c)]; rfl
theorem WFr.clo (h : WFr Q T B) : WFr (rClo Q) T B := by
  unfold rClo; split
  · exact h.close
  · exact h
theorem rClo_190 : rClo Q 190 = Q 190 := by
  unfold rClo; split
  · exact rClose_o (by decide)
  · rfl
theorem Sh.clo (h : Sh Q) : Sh (rClo Q) := fun i hi => by
  unfold rClo; split
  · rw [rClose_o (by omega)]; exact h i hi
  · exact h i hi
end P67
section C67
variable {E : xEnv} {l : Launch} {x : Bool} {n : Nat} {K : xKnd} {G : xRef} {M : xMem} {L : xLng} {a m T B : Nat} {S : xSp}
theorem c_X6_bestWindow (h : rM n K G m) (hc : MRel M m S) (hw : WFr S.2.2.1 T B) (hT : T ≤ 250000) (law : Int32) : Con E l Y_X6_bestWindow [.ref m, .int law] (x, n, K, G, M, L) (xN (kdO law 0 2) (aBest S.2.2.1 law 21).1 S m x n K G M L) xF := by
  have hm := h
  obtain ⟨h0, -, -, -, -, g6, h3, g7, h4, -⟩ := h
  have hr := hc.r0 0
  obtain ⟨N, hN⟩ : ∃ N, N = 21 := ⟨21, rfl⟩
  rw [show (aBest S.2.2.1 law 21).1 = (aBest S.2.2.1 law N).1 by rw [hN]]
  refine Con.mk 6 mp_X6_bestWindow rfl (ls := [some (.ref m), some (.int law), none, none, none, none, none, none]) rfl (Nat.le_of_ble_eq_true rfl) ?_
  by_cases c : law < 0 ∨ 2 < law
  · refine V_ald0 dX6_bestWindow_0 ?_
    refine V_ild1 dX6_bestWindow_1 ?_
    refine V_i2l dX6_bestWindow_2 ?_
    refine V_lconst (v := 0) dX6_bestWindow_3 (by decide) ?_
    refine V_ldc2 dX6_bestWindow_4 mk_X6_167 ?_
    refine V_cs3R lk_X6_86 cc_X6_in dX6_bestWindow_7 (c_X6_inI law 0 2) ft_X6_bestWindow_X6_in rfl rfl (Nat.le_of_ble_eq_true rfl) ?_
    refine V_if_eq (tgt := 17) dX6_bestWindow_10 (by decide) (fun h10 => ?_) (fun h10 => ?_)
    · refine V_iconst (v := 1) dX6_bestWindow_17 (by decide) ?_
      refine V_cv1R lk_X6_93 cc_X6_refused dX6_bestWindow_18 (by assumption) (c_X6_refused h0 1) ft_X6_bestWindow_X6_refused rfl rfl (Nat.le_of_ble_eq_true rfl) ?_
      refine V_if_eq (tgt := 26) dX6_bestWindow_21 (by decide) (fun h21 => ?_) (fun h21 => ?_)
      · exact absurd h21 (by decide)
      · refine V_iconst (v := 0) dX6_bestWindow_24 (by decide) ?_
        exact V_iret rfl dX6_bestWindow_25 (by decide) (by decide) (xN_b hc (kdO_1 c) _)
    · exact absurd (bIf (not_not_intro c)) h10
  · have loop : ∀ (r k : Nat) (Q0 : xRow) (bb : Int32) (o6 : Option Value), r + k = N → Sh Q0 → bb = (if k = 0 then -9 else (aBest S.2.2.1 law k).1) → V E l Y_X6_bestWindow (xQm E Y_X6_bestWindow (xN (kdO law 0 2) (aBest S.2.2.1 law N).1 S m x n K G M L) xF) (x, n, K, G, xro (xup M m 0 0) (m + 4) Q0, L) (0, 0) 34
        [some (.ref m), some (.int law), some (.int bb), some (.long (aBest S.2.2.1 law k).2), none, some (.int (nI k)), o6, none] [] := by
      intro r
      induction r with
      | zero =>
        intro k Q0 bb o6 hk s0 hb
        have e : k = N := by omega
        subst e
        rw [if_neg (by omega)] at hb
        refine V_ild5 dX6_bestWindow_34 ?_
        refine V_bipush (v := 20) dX6_bestWindow_36 (by decide) ?_
        refine V_icmp_gt (tgt := 133) dX6_bestWindow_38 (by decide) (fun h38 => ?_) (fun h38 => ?_)
        · refine V_ild2 dX6_bestWindow_133 ?_
          exact V_iret rfl dX6_bestWindow_134 (by decide) (by decide) ⟨_, _, rfl, fun _ => hb, rfl, (hc.ref 0).tri s0, by rw [xro_n (by omega), xup_s, kdO_0 c]; rfl, (Fm.up (by omega)).trans (Fm.ro (by omega))⟩
        · exact absurd (nI_lt (a := 20) (by omega) (by omega)) h38
      | succ r ih =>
        intro k Q0 bb o6 hk s0 hb
        have d9 : nb (S.2.2.1 3) 1 9 := hw.2.2.1
        have w20 : nb (nI k) 0 20 := ⟨k, Nat.zero_le _, by omega, rfl⟩
        have wq := hw.play w20 d9 hT (xLr S.2.2.1) (Nat.le_refl _)
        have sq := hc.2.2.2.1.1.play hw w20 d9 hT (xLr S.2.2.1) (Nat.le_refl _)
        have due := rDue_190 hw w20 d9 hT
        have es : rErr S.2.2.1 law (nI k) = if aRain (rClo (rPlay S.2.2.1 (nI k) (S.2.2.1 3) (xLr S.2.2.1))) law 8 - rDue S.2.2.1 (xLr S.2.2.1) < 0 then -(aRain (rClo (rPlay S.2.2.1 (nI k) (S.2.2.1 3) (xLr S.2.2.1))) law 8 - rDue S.2.2.1 (xLr S.2.2.1)) else aRain (rClo (rPlay S.2.2.1 (nI k) (S.2.2.1 3) (xLr S.2.2.1))) law 8 - rDue S.2.2.1 (xLr S.2.2.1) := absE
        have eb : aBest S.2.2.1 law (k + 1) = if k = 0 ∨ rErr S.2.2.1 law (nI k) < (aBest S.2.2.1 law k).2 then (nI k, rErr S.2.2.1 law (nI k)) else aBest S.2.2.1 law k := rfl
        have c9 : bb = -9 ↔ k = 0 := by
          by_cases z : k = 0
          · rw [if_pos z] at hb; exact ⟨fun _ => z, fun _ => hb⟩
          · rw [if_neg z] at hb
            obtain ⟨j, j1, j2⟩ := aBest_nn S.2.2.1 law k (by omega)
            exact ⟨fun q => absurd ((j2.symm.trans hb.symm).trans q) (nI_m9 (by omega)), fun q => absurd q z⟩
        have ih1 := ih (k + 1)
        rw [eb] at ih1
        generalize rErr S.2.2.1 law (nI k) = ER at *
        generalize hQ : rPlay S.2.2.1 (nI k) (S.2.2.1 3) (xLr S.2.2.1) = Q at *
        generalize hAR : aRain (rClo Q) law 8 = AR at *
        have k106 : ∀ y, y = ER → V E l Y_X6_bestWindow (xQm E Y_X6_bestWindow (xN (kdO law 0 2) (aBest S.2.2.1 law N).1 S m x n K G M L) xF) (x, n, K, G, xro (xup M m 0 0) (m + 4) (rClo Q), L) (0, 0) 106
            [some (.ref m), some (.int law), some (.int bb), some (.long (aBest S.2.2.1 law k).2), none, some (.int (nI k)), some (.long (AR - rDue S.2.2.1 (xLr S.2.2.1))), none] [.long y] := by
          intro y hy
          rw [hy]
          refine V_lst6 dX6_bestWindow_106 rfl (by decide) ?_
          refine V_ild2 dX6_bestWindow_108 ?_
          refine V_bipush (v := (-9)) dX6_bestWindow_109 (by decide) ?_
          refine V_icmp_eq (tgt := 121) dX6_bestWindow_111 (by decide) (fun h111 => ?_) (fun h111 => ?_)
          · refine V_ild5 dX6_bestWindow_121 ?_
            refine V_ist2 dX6_bestWindow_123 rfl (by decide) ?_
            refine V_lld6 dX6_bestWindow_124 ?_
            refine V_lst3 dX6_bestWindow_126 rfl (by decide) ?_
            refine V_inc5 dX6_bestWindow_127 rfl (nI_1 k) ?_
            refine V_goto (tgt := 34) dX6_bestWindow_130 (by decide) ?_
            first
            | (guard_hyp h111 : bb = -9
               rw [if_pos (Or.inl (c9.mp h111))] at ih1
               exact ih1 _ _ _ (by omega) sq.clo (by rw [if_neg (by omega)]))
            | (guard_hyp h118 : lg_cmp ER (aBest S.2.2.1 law k).2 < 0
               rw [if_pos (Or.inr ((lg_cmp_lt _ _).mp h118))] at ih1
               exact ih1 _ _ _ (by omega) sq.clo (by rw [if_neg (by omega)]))
            | (have cc : ¬ (k = 0 ∨ ER < (aBest S.2.2.1 law k).2) := fun q => q.elim (fun q => h111 (c9.mpr q)) (fun q => h118 ((lg_cmp_lt _ _).mpr q))
               rw [if_neg (show ¬ k + 1 = 0 by omega), if_neg cc] at ih1
               exact ih1 _ _ _ (by omega) sq.clo (by rw [hb, if_neg (fun q => h111 (c9.mpr q))]))
          · refine V_lld6 dX6_bestWindow_114 ?_
            refine V_lld3 dX6_bestWindow_116 ?_
            refine V_lcmp dX6_bestWindow_117 ?_
            refine V_if_ge (tgt := 127) dX6_bestWindow_118 (by decide) (fun h118 => ?_) (fun h118 => ?_)
            · refine V_inc5 dX6_bestWindow_127 rfl (nI_1 k) ?_
              refine V_goto (tgt := 34) dX6_bestWindow_130 (by decide) ?_
              first
              | (guard_hyp h111 : bb = -9
                 rw [if_pos (Or.inl (c9.mp h111))] at ih1
                 exact ih1 _ _ _ (by omega) sq.clo (by rw [if_neg (by omega)]))
              | (guard_hyp h118 : lg_cmp ER (aBest S.2.2.1 law k).2 < 0
                 rw [if_pos (Or.inr ((lg_cmp_lt _ _).mp h118))] at ih1
                 exact ih1 _ _ _ (by omega) sq.clo (by rw [if_neg (by omega)]))
              | (have cc : ¬ (k = 0 ∨ ER < (aBest S.2.2.1 law k).2) := fun q => q.elim (fun q => h111 (c9.mpr q)) (fun q => h118 ((lg_cmp_lt _ _).mpr q))
                 rw [if_neg (show ¬ k + 1 = 0 by omega), if_neg cc] at ih1
                 exact ih1 _ _ _ (by omega) sq.clo (by rw [hb, if_neg (fun q => h111 (c9.mpr q))]))
            · refine V_ild5 dX6_bestWindow_121 ?_
              refine V_ist2 dX6_bestWindow_123 rfl (by decide) ?_
              refine V_lld6 dX6_bestWindow_124 ?_
              refine V_lst3 dX6_bestWindow_126 rfl (by decide) ?_
              refine V_inc5 dX6_bestWindow_127 rfl (nI_1 k) ?_
              refine V_goto (tgt := 34) dX6_bestWindow_130 (by decide) ?_
              first
              | (guard_hyp h111 : bb = -9
                 rw [if_pos (Or.inl (c9.mp h111))] at ih1
                 exact ih1 _ _ _ (by omega) sq.clo (by rw [if_neg (by omega)]))
              | (guard_hyp h118 : lg_cmp ER (aBest S.2.2.1 law k).2 < 0
                 rw [if_pos (Or.inr ((lg_cmp_lt _ _).mp h118))] at ih1
                 exact ih1 _ _ _ (by omega) sq.clo (by rw [if_neg (by omega)]))
              | (have cc : ¬ (k = 0 ∨ ER < (aBest S.2.2.1 law k).2) := fun q => q.elim (fun q => h111 (c9.mpr q)) (fun q => h118 ((lg_cmp_lt _ _).mpr q))
                 rw [if_neg (show ¬ k + 1 = 0 by omega), if_neg cc] at ih1
                 exact ih1 _ _ _ (by omega) sq.clo (by rw [hb, if_neg (fun q => h111 (c9.mpr q))]))
        have k71 : V E l Y_X6_bestWindow (xQm E Y_X6_bestWindow (xN (kdO law 0 2) (aBest S.2.2.1 law N).1 S m x n K G M L) xF) (x, n, K, G, xro (xup M m 0 0) (m + 4) (rClo Q), L) (0, 0) 71
            [some (.ref m), some (.int law), some (.int bb), some (.long (aBest S.2.2.1 law k).2), none, some (.int (nI k)), o6, none] [] := by
          refine V_ald0 dX6_bestWindow_71 ?_
          refine V_getR fd_X6_19 dX6_bestWindow_72 (by assumption) (by assumption) rfl ?_
          refine V_ild1 dX6_bestWindow_75 ?_
          refine V_cs2R lk_X6_169 cc_X6_rainOf dX6_bestWindow_76 (c_X6_rainOf h4 (by rw [xro_s]; exact wq.clo) law) ft_X6_bestWindow_X6_rainOf rfl rfl (Nat.le_of_ble_eq_true rfl) ?_
          rw [xro_s, hAR]
          refine V_ald0 dX6_bestWindow_79 ?_
          refine V_getR fd_X6_19 dX6_bestWindow_80 (by assumption) (by assumption) rfl ?_
          refine V_sipush (v := 190) dX6_bestWindow_83 (by decide) ?_
          refine V_iald (j := 190) dX6_bestWindow_86 (by assumption) (by decide) (by decide) ?_
          rw [xro_s, rClo_190]
          refine V_i2l dX6_bestWindow_87 ?_
          rw [due]
          refine V_lsub dX6_bestWindow_88 ?_
          refine V_lst6 dX6_bestWindow_89 rfl (by decide) ?_
          refine V_lld6 dX6_bestWindow_91 ?_
          refine V_lconst (v := 0) dX6_bestWindow_93 (by decide) ?_
          refine V_lcmp dX6_bestWindow_94 ?_
          refine V_if_ge (tgt := 104) dX6_bestWindow_95 (by decide) (fun h95 => ?_) (fun h95 => ?_)
          · refine V_lld6 dX6_bestWindow_104 ?_
            first
            | (guard_hyp h95 : lg_cmp (AR - rDue S.2.2.1 (xLr S.2.2.1)) 0 < 0
               exact k106 _ (by rw [es, if_pos ((lg_cmp_lt _ _).mp h95)]))
            | exact k106 _ (by rw [es, if_neg (fun q => h95 ((lg_cmp_lt _ _).mpr q))])
          · refine V_lld6 dX6_bestWindow_98 ?_
            refine V_lneg dX6_bestWindow_100 ?_
            refine V_goto (tgt := 106) dX6_bestWindow_101 (by decide) ?_
            first
            | (guard_hyp h95 : lg_cmp (AR - rDue S.2.2.1 (xLr S.2.2.1)) 0 < 0
               exact k106 _ (by rw [es, if_pos ((lg_cmp_lt _ _).mp h95)]))
            | exact k106 _ (by rw [es, if_neg (fun q => h95 ((lg_cmp_lt _ _).mpr q))])
        refine V_ild5 dX6_bestWindow_34 ?_
        refine V_bipush (v := 20) dX6_bestWindow_36 (by decide) ?_
        refine V_icmp_gt (tgt := 133) dX6_bestWindow_38 (by decide) (fun h38 => ?_) (fun h38 => ?_)
        · exact absurd h38 (nI_nlt (a := 20) (by omega) (by omega))
        · refine V_ald0 dX6_bestWindow_41 ?_
          refine V_ild5 dX6_bestWindow_42 ?_
          refine V_ald0 dX6_bestWindow_44 ?_
          refine V_getR fd_X6_16 dX6_bestWindow_45 (by assumption) (by assumption) rfl ?_
          refine V_iconst (v := 3) dX6_bestWindow_48 (by decide) ?_
          refine V_iald (j := 3) dX6_bestWindow_49 (by assumption) (by decide) (by decide) ?_
          rw [show xro (xup M m 0 0) (m + 4) Q0 (m + 3) = S.2.2.1 from by rw [xro_n (by omega)]; exact hr]
          refine V_cv2U lk_X6_200 cc_X6_play dX6_bestWindow_50 (by assumption) (c_X6_play hm ((hc.ref 0).tri s0) hw hT w20 d9) ft_X6_bestWindow_X6_play rfl rfl (Nat.le_of_ble_eq_true rfl) ?_
          rw [hQ, xro_ro]
          refine V_ald0 dX6_bestWindow_53 ?_
          refine V_getR fd_X6_19 dX6_bestWindow_54 (by assumption) (by assumption) rfl ?_
          refine V_bipush (v := 13) dX6_bestWindow_57 (by decide) ?_
          refine V_iald (j := 13) dX6_bestWindow_59 (by assumption) (by decide) (by decide) ?_
          refine V_iconst (v := 1) dX6_bestWindow_60 (by decide) ?_
          refine V_icmp_ne (tgt := 71) dX6_bestWindow_61 (by decide) (fun h61 => ?_) (fun h61 => ?_)
          · first
            | (guard_hyp h61 : xro (xup M m 0 0) (m + 4) Q (m + 4) 13 = 1
               rw [xro_s] at h61
               rw [xro_s, xro_ro]
               rw [show rClo Q = rClose Q from if_pos h61] at k71
               exact k71)
            | (rw [xro_s] at h61
               rw [show rClo Q = Q from if_neg h61] at k71
               exact k71)
          · refine V_ald0 dX6_bestWindow_64 ?_
            refine V_getR fd_X6_19 dX6_bestWindow_65 (by assumption) (by assumption) rfl ?_
            refine V_cs1U lk_X6_61 cc_X6_close dX6_bestWindow_68 (c_X6_close h4) ft_X6_bestWindow_X6_close rfl rfl (Nat.le_of_ble_eq_true rfl) ?_
            first
            | (guard_hyp h61 : xro (xup M m 0 0) (m + 4) Q (m + 4) 13 = 1
               rw [xro_s] at h61
               rw [xro_s, xro_ro]
               rw [show rClo Q = rClose Q from if_pos h61] at k71
               exact k71)
            | (rw [xro_s] at h61
               rw [show rClo Q = Q from if_neg h61] at k71
               exact k71)
    refine V_ald0 dX6_bestWindow_0 ?_
    refine V_ild1 dX6_bestWindow_1 ?_
    refine V_i2l dX6_bestWindow_2 ?_
    refine V_lconst (v := 0) dX6_bestWindow_3 (by decide) ?_
    refine V_ldc2 dX6_bestWindow_4 mk_X6_167 ?_
    refine V_cs3R lk_X6_86 cc_X6_in dX6_bestWindow_7 (c_X6_inI law 0 2) ft_X6_bestWindow_X6_in rfl rfl (Nat.le_of_ble_eq_true rfl) ?_
    refine V_if_eq (tgt := 17) dX6_bestWindow_10 (by decide) (fun h10 => ?_) (fun h10 => ?_)
    · exact absurd (bIt c) (by rw [h10]; decide)
    · refine V_iconst (v := 0) dX6_bestWindow_13 (by decide) ?_
      refine V_goto (tgt := 18) dX6_bestWindow_14 (by decide) ?_
      refine V_cv1R lk_X6_93 cc_X6_refused dX6_bestWindow_18 (by assumption) (c_X6_refused h0 0) ft_X6_bestWindow_X6_refused rfl rfl (Nat.le_of_ble_eq_true rfl) ?_
      refine V_if_eq (tgt := 26) dX6_bestWindow_21 (by decide) (fun h21 => ?_) (fun h21 => ?_)
      · refine V_bipush (v := (-9)) dX6_bestWindow_26 (by decide) ?_
        refine V_ist2 dX6_bestWindow_28 rfl (by decide) ?_
        refine V_lconst (v := 0) dX6_bestWindow_29 (by decide) ?_
        refine V_lst3 dX6_bestWindow_30 rfl (by decide) ?_
        refine V_iconst (v := 0) dX6_bestWindow_31 (by decide) ?_
        refine V_ist5 dX6_bestWindow_32 rfl (by decide) ?_
        have := loop N 0 (M (m + 4)) (-9) none (by omega) hc.2.2.2.1.2.2 rfl
        rw [show xro (xup M m 0 0) (m + 4) (M (m + 4)) = xup M m 0 0 from by
          have e : xup M m 0 0 (m + 4) = M (m + 4) := by funext z; exact xup_k (by omega)
          rw [← e]; exact xro_id] at this
        exact this
      · exact absurd (by decide) h21
end C67

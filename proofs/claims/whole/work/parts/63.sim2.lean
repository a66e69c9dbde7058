/-! ===== the reference: simulations ===== -/
section P63
variable {R Q : xRow} {T B : Nat}
theorem simA_n (h : WFr R T B) (hT : T ≤ 1000000) (hB : B < 2 ^ 29) (s : Int64) : ∀ k, k ≤ 99 → simA R s k = 1000000 * (simQ R s k 6 - R 6) + 10000 * (simQ R s k 7 - R 7) + 100 * (simQ R s k 8 - R 8) + (simQ R s k 9 - R 9)
  | 0, _ => by
    show (0 : Int32) = 1000000 * (R 6 - R 6) + 10000 * (R 7 - R 7) + 100 * (R 8 - R 8) + (R 9 - R 9)
    grind
  | k + 1, hk => by
    have ih := simA_n h hT hB s k (by omega)
    have wq := h.sim hT hB s k (by omega)
    have sA : simA R s (k + 1) = if simN (simX s (k + 1)) % 16 = 0 then simA R s k else simA R s k + kWt (rDrF (simQ R s k) (nI (simN (simX s (k + 1)) / 1024 % 12)) (nI (1 + simN (simX s (k + 1)) / 16 % 60))) := rfl
    have sQ : simQ R s (k + 1) = if simN (simX s (k + 1)) % 16 = 0 then upR (simQ R s k) 1 (nI (simN (simX s (k + 1)) / 16 % 41)) else rDr (simQ R s k) (nI (simN (simX s (k + 1)) / 1024 % 12)) (nI (1 + simN (simX s (k + 1)) / 16 % 60)) := rfl
    rw [sA, sQ]
    clear sA sQ
    generalize simN (simX s (k + 1)) = r
    by_cases c : r % 16 = 0
    · rw [if_pos c, if_pos c, upR_n (by decide), upR_n (by decide), upR_n (by decide), upR_n (by decide)]; exact ih
    · rw [if_neg c, if_neg c]
      generalize nI (r / 1024 % 12) = t
      generalize nI (1 + r / 16 % 60) = z
      have f4 : rDrF (simQ R s k) t z < 4 := rFt_lt
      have a0 := rDr_6 wq (t := t) (z := z) (f := 0) (by decide)
      have a1 := rDr_6 wq (t := t) (z := z) (f := 1) (by decide)
      have a2 := rDr_6 wq (t := t) (z := z) (f := 2) (by decide)
      have a3 := rDr_6 wq (t := t) (z := z) (f := 3) (by decide)
      rw [show 6 + 0 = 6 from rfl] at a0
      rw [show 6 + 1 = 7 from rfl] at a1
      rw [show 6 + 2 = 8 from rfl] at a2
      rw [show 6 + 3 = 9 from rfl] at a3
      rw [a0, a1, a2, a3, ih]
      generalize rDrF (simQ R s k) t z = f at *
      generalize simQ R s k 6 = x6
      generalize simQ R s k 7 = x7
      generalize simQ R s k 8 = x8
      generalize simQ R s k 9 = x9
      have hc : f = 0 ∨ f = 1 ∨ f = 2 ∨ f = 3 := by omega
      rcases hc with rfl | rfl | rfl | rfl
      · rw [show kWt 0 = 1000000 from rfl, if_pos rfl, if_neg (by decide), if_neg (by decide), if_neg (by decide)]; grind
      · rw [show kWt 1 = 10000 from rfl, if_neg (by decide), if_pos rfl, if_neg (by decide), if_neg (by decide)]; grind
      · rw [show kWt 2 = 100 from rfl, if_neg (by decide), if_neg (by decide), if_pos rfl, if_neg (by decide)]; grind
      · rw [show kWt 3 = 1 from rfl, if_neg (by decide), if_neg (by decide), if_neg (by decide), if_pos rfl]; grind
theorem Sh.sim (h : Sh R) (hw : WFr R T B) (hT : T ≤ 1000000) (hB : B < 2 ^ 29) (s : Int64) : ∀ k, k ≤ 99 → Sh (simQ R s k)
  | 0, _ => h
  | k + 1, hk => by
    have ih := h.sim hw hT hB s k (by omega)
    unfold simQ
    split
    · exact ih.up (by decide) _
    · exact ih.dr (hw.sim hT hB s k (by omega)) _ _
end P63
section C63
variable {E : xEnv} {l : Launch} {x : Bool} {n : Nat} {K : xKnd} {G : xRef} {M : xMem} {L : xLng} {a m T B : Nat} {S : xSp}
theorem c_X6_simulate (h : rM n K G m) (hc : MRel M m S) (hw : WFr S.2.2.1 T B) (hT : T ≤ 1000000) (hB : B < 2 ^ 29) (s : Int64) (m9 : Int32) : Con E l Y_X6_simulate [.ref m, .long s, .int m9] (x, n, K, G, M, L) (xN (kdO m9 1 99) (simA S.2.2.1 s m9.toNatClampNeg) S m x n K G M L) xF := by
  have hm := h
  obtain ⟨h0, -, -, -, -, g6, h3, g7, h4, -⟩ := h
  have hr := hc.r0
  refine Con.mk 4 mp_X6_simulate rfl (ls := [some (.ref m), some (.long s), none, some (.int m9), none, none, none, none]) rfl (Nat.le_of_ble_eq_true rfl) ?_
  by_cases c : m9 < 1 ∨ 99 < m9
  · refine V_ald0 dX6_simulate_0 ?_
    refine V_ild3 dX6_simulate_1 ?_
    refine V_i2l dX6_simulate_2 ?_
    refine V_lconst (v := 1) dX6_simulate_3 (by decide) ?_
    refine V_ldc2 dX6_simulate_4 mk_X6_173 ?_
    refine V_cs3R lk_X6_86 cc_X6_in dX6_simulate_7 (c_X6_inI m9 1 99) ft_X6_simulate_X6_in rfl rfl (Nat.le_of_ble_eq_true rfl) ?_
    refine V_if_eq (tgt := 17) dX6_simulate_10 (by decide) (fun h10 => ?_) (fun h10 => ?_)
    · refine V_iconst (v := 1) dX6_simulate_17 (by decide) ?_
      refine V_cv1R lk_X6_93 cc_X6_refused dX6_simulate_18 (by assumption) (c_X6_refused h0 1) ft_X6_simulate_X6_refused rfl rfl (Nat.le_of_ble_eq_true rfl) ?_
      refine V_if_eq (tgt := 26) dX6_simulate_21 (by decide) (fun h21 => ?_) (fun h21 => ?_)
      · exact absurd h21 (by decide)
      · refine V_iconst (v := 0) dX6_simulate_24 (by decide) ?_
        exact V_iret rfl dX6_simulate_25 (by decide) (by decide) (xN_b hc (kdO_1 c) _)
    · exact absurd (bIf (not_not_intro c)) h10
  · have c' := c
    rw [not_or] at c'
    obtain ⟨N, n1, n9, eN⟩ := xIdx1 (N := 99) (by decide) c'.1 c'.2
    have ek : m9.toNatClampNeg = N := by rw [eN, nI_clamp (by omega)]
    rw [ek]
    have sN := simA_n hw hT hB s N n9
    have sh := hc.2.2.2.1.1.sim hw hT hB s N n9
    have fin : V E l Y_X6_simulate (xQm E Y_X6_simulate (xN (kdO m9 1 99) (simA S.2.2.1 s N) S m x n K G M L) xF) (x, n, K, G, xro (xup M m 0 0) (m + 4) (simQ S.2.2.1 s N), L) (0, 0) 120 [some (.ref m), some (.long s), none, some (.int m9), some (.long (simX s N)), none, some (.int (nI N)), none] [] → True := fun _ => trivial
    clear fin
    have last : ∀ o7, V E l Y_X6_simulate (xQm E Y_X6_simulate (xN (kdO m9 1 99) (simA S.2.2.1 s N) S m x n K G M L) xF) (x, n, K, G, xro (xup M m 0 0) (m + 4) (simQ S.2.2.1 s N), L) (0, 0) 120 [some (.ref m), some (.long s), none, some (.int m9), some (.long (simX s N)), none, some (.int (nI N)), o7] [] := by
      intro o7
      generalize simX s N = X
      generalize simQ S.2.2.1 s N = Q at *
      generalize simA S.2.2.1 s N = A at *
      have r3 : xro (xup M m 0 0) (m + 4) Q (m + 3) = S.2.2.1 := by rw [xro_n (by omega)]; exact hr 0
      have one : ∀ (f : Nat) (y : Int32), f < 4 → V E l Y_X6_simulate (xQm E Y_X6_simulate (xN (kdO m9 1 99) A S m x n K G M L) xF) (x, n, K, G, xro (xup M m 0 0) (m + 4) Q, L) (0, 0) 126 [some (.ref m), some (.long s), none, some (.int m9), some (.long X), none, some (.int (100 * y + Q (6 + f) - S.2.2.1 (6 + f))), some (.int (nI (f + 1)))] [] →
          V E l Y_X6_simulate (xQm E Y_X6_simulate (xN (kdO m9 1 99) A S m x n K G M L) xF) (x, n, K, G, xro (xup M m 0 0) (m + 4) Q, L) (0, 0) 126 [some (.ref m), some (.long s), none, some (.int m9), some (.long X), none, some (.int y), some (.int (nI f))] [] := by
        intro f y hf kk
        refine V_ild7 dX6_simulate_126 ?_
        refine V_iconst (v := 4) dX6_simulate_128 (by decide) ?_
        refine V_icmp_ge (tgt := 167) dX6_simulate_129 (by decide) (fun h129 => ?_) (fun h129 => ?_)
        · exact absurd (nI_lt (b := 4) (by omega) (by decide)) h129
        · refine V_bipush (v := 100) dX6_simulate_132 (by decide) ?_
          refine V_ild6 dX6_simulate_134 ?_
          refine V_imul dX6_simulate_136 ?_
          refine V_ald0 dX6_simulate_137 ?_
          refine V_getR fd_X6_19 dX6_simulate_138 (by assumption) (by assumption) rfl ?_
          refine V_bipush (v := 6) dX6_simulate_141 (by decide) ?_
          refine V_ild7 dX6_simulate_143 ?_
          refine V_iadd dX6_simulate_145 ?_
          refine V_iald (j := 6 + f) dX6_simulate_146 (by assumption) (nI_add 6 f) (by omega) ?_
          rw [xro_s]
          refine V_iadd dX6_simulate_147 ?_
          refine V_ald0 dX6_simulate_148 ?_
          refine V_getR fd_X6_16 dX6_simulate_149 (by assumption) (by assumption) rfl ?_
          refine V_bipush (v := 6) dX6_simulate_152 (by decide) ?_
          refine V_ild7 dX6_simulate_154 ?_
          refine V_iadd dX6_simulate_156 ?_
          refine V_iald (j := 6 + f) dX6_simulate_157 (by assumption) (nI_add 6 f) (by omega) ?_
          rw [r3]
          refine V_isub dX6_simulate_158 ?_
          refine V_ist6 dX6_simulate_159 rfl (by decide) ?_
          refine V_inc7 dX6_simulate_161 rfl (nI_1 f) ?_
          refine V_goto (tgt := 126) dX6_simulate_164 (by decide) ?_
          exact kk
      refine V_iconst (v := 0) dX6_simulate_120 (by decide) ?_
      refine V_ist6 dX6_simulate_121 rfl (by decide) ?_
      refine V_iconst (v := 0) dX6_simulate_123 (by decide) ?_
      refine V_ist7 dX6_simulate_124 rfl (by decide) ?_
      refine one 0 0 (by decide) (one 1 _ (by decide) (one 2 _ (by decide) (one 3 _ (by decide) ?_)))
      refine V_ild7 dX6_simulate_126 ?_
      refine V_iconst (v := 4) dX6_simulate_128 (by decide) ?_
      refine V_icmp_ge (tgt := 167) dX6_simulate_129 (by decide) (fun h129 => ?_) (fun h129 => ?_)
      · refine V_ild6 dX6_simulate_167 ?_
        exact V_iret rfl dX6_simulate_169 (by decide) (by decide) ⟨_, _, rfl, fun _ => by rw [sN]; grind, rfl, (hc.ref 0).tri sh, by rw [xro_n (by omega), xup_s, kdO_0 c]; rfl, (Fm.up (by omega)).trans (Fm.ro (by omega))⟩
      · exact absurd h129 (by decide)
    have loop : ∀ (r k : Nat) (o7 : Option Value), r + k = N → V E l Y_X6_simulate (xQm E Y_X6_simulate (xN (kdO m9 1 99) (simA S.2.2.1 s N) S m x n K G M L) xF) (x, n, K, G, xro (xup M m 0 0) (m + 4) (simQ S.2.2.1 s k), L) (0, 0) 36 [some (.ref m), some (.long s), none, some (.int m9), some (.long (simX s k)), none, some (.int (nI k)), o7] [] := by
      intro r
      induction r with
      | zero =>
        intro k o7 hk
        have e : k = N := by omega
        subst e
        refine V_ild6 dX6_simulate_36 ?_
        refine V_ild3 dX6_simulate_38 ?_
        refine V_icmp_ge (tgt := 120) dX6_simulate_39 (by decide) (fun h39 => ?_) (fun h39 => ?_)
        · exact last o7
        · exact absurd h39 (by rw [eN]; exact nI_nlt (Nat.le_refl k) (by omega))
      | succ r ih =>
        intro k o7 hk
        have wQ := hw.sim hT hB s k (by omega)
        have rl := simN_lt (simX s (k + 1))
        have ex : simX s k * 6364136223846793005 + 1442695040888963407 = simX s (k + 1) := rfl
        have e16 : nI (simN (simX s (k + 1))) - nI (simN (simX s (k + 1))) / 16 * 16 = nI (simN (simX s (k + 1)) % 16) := pkR _ 16 rl (by decide) (by decide)
        have z16 : nI (simN (simX s (k + 1)) % 16) = 0 ↔ simN (simX s (k + 1)) % 16 = 0 := nI_eq (b := 0) (by omega) (by decide)
        have e41 : nI (simN (simX s (k + 1))) / 16 - nI (simN (simX s (k + 1))) / 16 / 41 * 41 = nI (simN (simX s (k + 1)) / 16 % 41) := by
          rw [show nI (simN (simX s (k + 1))) / 16 = nI (simN (simX s (k + 1)) / 16) from pkD _ 16 rl (by decide) (by decide)]; exact pkR _ 41 (by omega) (by decide) (by decide)
        have e60 : 1 + (nI (simN (simX s (k + 1))) / 16 - nI (simN (simX s (k + 1))) / 16 / 60 * 60) = nI (1 + simN (simX s (k + 1)) / 16 % 60) := by
          rw [show nI (simN (simX s (k + 1))) / 16 = nI (simN (simX s (k + 1)) / 16) from pkD _ 16 rl (by decide) (by decide), show nI (simN (simX s (k + 1)) / 16) - nI (simN (simX s (k + 1)) / 16) / 60 * 60 = nI (simN (simX s (k + 1)) / 16 % 60) from pkR _ 60 (by omega) (by decide) (by decide)]; exact nI_add 1 _
        have e12 : nI (simN (simX s (k + 1))) / 1024 - nI (simN (simX s (k + 1))) / 1024 / 12 * 12 = nI (simN (simX s (k + 1)) / 1024 % 12) := by
          rw [show nI (simN (simX s (k + 1))) / 1024 = nI (simN (simX s (k + 1)) / 1024) from pkD _ 1024 rl (by decide) (by decide)]; exact pkR _ 12 (by omega) (by decide) (by decide)
        have sr := sim_r (simX s (k + 1))
        have sQ : simQ S.2.2.1 s (k + 1) = if simN (simX s (k + 1)) % 16 = 0 then upR (simQ S.2.2.1 s k) 1 (nI (simN (simX s (k + 1)) / 16 % 41)) else rDr (simQ S.2.2.1 s k) (nI (simN (simX s (k + 1)) / 1024 % 12)) (nI (1 + simN (simX s (k + 1)) / 16 % 60)) := rfl
        have ih1 := ih (k + 1)
        generalize simX s (k + 1) = X at *
        generalize simN X = y at *
        generalize simQ S.2.2.1 s k = Q at *
        generalize simQ S.2.2.1 s (k + 1) = Q' at *
        generalize simA S.2.2.1 s N = A at *
        refine V_ild6 dX6_simulate_36 ?_
        refine V_ild3 dX6_simulate_38 ?_
        refine V_icmp_ge (tgt := 120) dX6_simulate_39 (by decide) (fun h39 => ?_) (fun h39 => ?_)
        · exact absurd (by rw [eN]; exact nI_lt (by omega) (by omega)) h39
        · refine V_lld4 dX6_simulate_42 ?_
          refine V_ldc2 dX6_simulate_44 mk_X6_209 ?_
          refine V_lmul dX6_simulate_47 ?_
          refine V_ldc2 dX6_simulate_48 mk_X6_211 ?_
          refine V_ladd dX6_simulate_51 ?_
          rw [ex]
          refine V_lst4 dX6_simulate_52 rfl (by decide) ?_
          refine V_lld4 dX6_simulate_54 ?_
          refine V_bipush (v := 33) dX6_simulate_56 (by decide) ?_
          refine V_lushr dX6_simulate_58 ?_
          refine V_l2i dX6_simulate_59 ?_
          rw [sr]
          refine V_ist7 dX6_simulate_60 rfl (by decide) ?_
          refine V_ild7 dX6_simulate_62 ?_
          refine V_bipush (v := 16) dX6_simulate_64 (by decide) ?_
          refine V_irem dX6_simulate_66 (by decide) ?_
          rw [e16]
          refine V_if_ne (tgt := 87) dX6_simulate_67 (by decide) (fun h67 => ?_) (fun h67 => ?_)
          · rw [z16] at h67
            rw [if_neg h67] at sQ
            refine V_ald0 dX6_simulate_87 ?_
            refine V_getR fd_X6_19 dX6_simulate_88 (by assumption) (by assumption) rfl ?_
            refine V_ild7 dX6_simulate_91 ?_
            refine V_sipush (v := 1024) dX6_simulate_93 (by decide) ?_
            refine V_idiv dX6_simulate_96 (by decide) ?_
            refine V_bipush (v := 12) dX6_simulate_97 (by decide) ?_
            refine V_irem dX6_simulate_99 (by decide) ?_
            rw [e12]
            refine V_iconst (v := 1) dX6_simulate_100 (by decide) ?_
            refine V_ild7 dX6_simulate_101 ?_
            refine V_bipush (v := 16) dX6_simulate_103 (by decide) ?_
            refine V_idiv dX6_simulate_105 (by decide) ?_
            refine V_bipush (v := 60) dX6_simulate_106 (by decide) ?_
            refine V_irem dX6_simulate_108 (by decide) ?_
            refine V_iadd dX6_simulate_109 ?_
            rw [e60]
            refine V_cs3R lk_X6_117 cc_X6_goDrop dX6_simulate_110 (c_X6_goDrop h4 (by rw [xro_s]; exact wQ) _ _) ft_X6_simulate_X6_goDrop rfl rfl (Nat.le_of_ble_eq_true rfl) ?_
            refine V_pop dX6_simulate_113 rfl ?_
            refine V_inc6 dX6_simulate_114 rfl (nI_1 k) ?_
            refine V_goto (tgt := 36) dX6_simulate_117 (by decide) ?_
            simp only [xup_r, xro_s, xro_ro] at ih1 ⊢
            rw [← sQ]
            exact ih1 _ (by omega)
          · rw [z16] at h67
            rw [if_pos h67] at sQ
            refine V_ald0 dX6_simulate_70 ?_
            refine V_getR fd_X6_19 dX6_simulate_71 (by assumption) (by assumption) rfl ?_
            refine V_iconst (v := 1) dX6_simulate_74 (by decide) ?_
            refine V_ild7 dX6_simulate_75 ?_
            refine V_bipush (v := 16) dX6_simulate_77 (by decide) ?_
            refine V_idiv dX6_simulate_79 (by decide) ?_
            refine V_bipush (v := 41) dX6_simulate_80 (by decide) ?_
            refine V_irem dX6_simulate_82 (by decide) ?_
            rw [e41]
            refine V_iast (j := 1) dX6_simulate_83 (by assumption) (by decide) (by decide) ?_
            refine V_goto (tgt := 114) dX6_simulate_84 (by decide) ?_
            refine V_inc6 dX6_simulate_114 rfl (nI_1 k) ?_
            refine V_goto (tgt := 36) dX6_simulate_117 (by decide) ?_
            simp only [xup_r, xro_s, xro_ro] at ih1 ⊢
            rw [← sQ]
            exact ih1 _ (by omega)
    refine V_ald0 dX6_simulate_0 ?_
    refine V_ild3 dX6_simulate_1 ?_
    refine V_i2l dX6_simulate_2 ?_
    refine V_lconst (v := 1) dX6_simulate_3 (by decide) ?_
    refine V_ldc2 dX6_simulate_4 mk_X6_173 ?_
    refine V_cs3R lk_X6_86 cc_X6_in dX6_simulate_7 (c_X6_inI m9 1 99) ft_X6_simulate_X6_in rfl rfl (Nat.le_of_ble_eq_true rfl) ?_
    refine V_if_eq (tgt := 17) dX6_simulate_10 (by decide) (fun h10 => ?_) (fun h10 => ?_)
    · exact absurd (bIt c) (by rw [h10]; decide)
    · refine V_iconst (v := 0) dX6_simulate_13 (by decide) ?_
      refine V_goto (tgt := 18) dX6_simulate_14 (by decide) ?_
      refine V_cv1R lk_X6_93 cc_X6_refused dX6_simulate_18 (by assumption) (c_X6_refused h0 0) ft_X6_simulate_X6_refused rfl rfl (Nat.le_of_ble_eq_true rfl) ?_
      refine V_if_eq (tgt := 26) dX6_simulate_21 (by decide) (fun h21 => ?_) (fun h21 => ?_)
      · refine V_ald0 dX6_simulate_26 ?_
        refine V_cv0U lk_X6_194 cc_X6_begin dX6_simulate_27 (by assumption) (c_X6_begin hm (hc.ref 0)) ft_X6_simulate_X6_begin rfl rfl (Nat.le_of_ble_eq_true rfl) ?_
        refine V_lld1 dX6_simulate_30 ?_
        refine V_lst4 dX6_simulate_31 rfl (by decide) ?_
        refine V_iconst (v := 0) dX6_simulate_33 (by decide) ?_
        refine V_ist6 dX6_simulate_34 rfl (by decide) ?_
        exact loop N 0 none (by omega)
      · exact absurd (by decide) h21
end C63

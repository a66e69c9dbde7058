/-! ===== the reference: more calls that look; the text ===== -/
section P55
variable {M M' : xMem} {L : xLng} {a m k : Nat} {R R' Q : xRow} {T B : Nat} {S : xSp} {x : Bool} {n : Nat} {K : xKnd} {G : xRef}
theorem xN_b {A : Int32} (hc : MRel M m S) (kd : k = 1) (b : Int32) : xN k A S m x n K G M L (some (.int b)) (x, n, K, G, xup M m 0 1, L) := ⟨b, _, rfl, fun q => by omega, rfl, hc.ref 1, by rw [xup_s, kd]; rfl, Fm.up (by omega)⟩
theorem xN_b2 {A : Int32} (hc : MRel M m S) (kd : k = 2) (b : Int32) : xN k A S m x n K G M L (some (.int b)) (x, n, K, G, xup M m 0 2, L) := ⟨b, _, rfl, fun q => by omega, rfl, hc.ref 2, by rw [xup_s, kd]; rfl, Fm.up (by omega)⟩
theorem xN_g {A b : Int32} (hc : MRel M m S) (kd : k = 0) (hb : b = A) : xN k A S m x n K G M L (some (.int b)) (x, n, K, G, xup M m 0 0, L) := ⟨b, _, rfl, fun _ => hb, rfl, hc.ref 0, by rw [xup_s, kd]; rfl, Fm.up (by omega)⟩
theorem xNl_b {A : Int64} (hc : MRel M m S) (kd : k = 1) (b : Int64) : xNl k A S m x n K G M L (some (.long b)) (x, n, K, G, xup M m 0 1, L) := ⟨b, _, rfl, fun q => by omega, rfl, hc.ref 1, by rw [xup_s, kd]; rfl, Fm.up (by omega)⟩
theorem xNl_g {A b : Int64} (hc : MRel M m S) (kd : k = 0) (hb : b = A) : xNl k A S m x n K G M L (some (.long b)) (x, n, K, G, xup M m 0 0, L) := ⟨b, _, rfl, fun _ => hb, rfl, hc.ref 0, by rw [xup_s, kd]; rfl, Fm.up (by omega)⟩
theorem MRel.r0 (hc : MRel M m S) (v : Int32) : xup M m 0 v (m + 3) = S.2.2.1 := by rw [show xup M m 0 v (m + 3) = M (m + 3) from by funext z; exact xup_k (by omega)]; exact hc.2.2.1
theorem kdO_1 {v lo hi : Int32} (c : v < lo ∨ hi < v) : kdO v lo hi = 1 := if_pos c
theorem kdO_0 {v lo hi : Int32} (c : ¬ (v < lo ∨ hi < v)) : kdO v lo hi = 0 := if_neg c
end P55
section C55
variable {E : xEnv} {l : Launch} {x : Bool} {n : Nat} {K : xKnd} {G : xRef} {M : xMem} {L : xLng} {a m T B : Nat} {S : xSp}
theorem c_X6_setting (h : rM n K G m) (hc : MRel M m S) (w : Int32) : Con E l Y_X6_setting [.ref m, .int w] (x, n, K, G, M, L) (xN (kdO w 0 4) (S.2.2.1 (1 + w.toNatClampNeg)) S m x n K G M L) xF := by
  obtain ⟨h0, -, -, -, -, g6, h3, -⟩ := h
  have hr := hc.r0
  refine Con.mk 0 mp_X6_setting rfl (ls := [some (.ref m), some (.int w)]) rfl (Nat.le_of_ble_eq_true rfl) ?_
  by_cases c : w < 0 ∨ 4 < w
  · refine V_ald0 dX6_setting_0 ?_
    refine V_ild1 dX6_setting_1 ?_
    refine V_i2l dX6_setting_2 ?_
    refine V_lconst (v := 0) dX6_setting_3 (by decide) ?_
    refine V_ldc2 dX6_setting_4 mk_X6_139 ?_
    refine V_cs3R lk_X6_86 cc_X6_in dX6_setting_7 (c_X6_inI w 0 4) ft_X6_setting_X6_in rfl rfl (Nat.le_of_ble_eq_true rfl) ?_
    refine V_if_eq (tgt := 17) dX6_setting_10 (by decide) (fun h10 => ?_) (fun h10 => ?_)
    · refine V_iconst (v := 1) dX6_setting_17 (by decide) ?_
      refine V_cv1R lk_X6_93 cc_X6_refused dX6_setting_18 (by assumption) (c_X6_refused h0 1) ft_X6_setting_X6_refused rfl rfl (Nat.le_of_ble_eq_true rfl) ?_
      refine V_if_eq (tgt := 28) dX6_setting_21 (by decide) (fun h21 => ?_) (fun h21 => ?_)
      · exact absurd h21 (by decide)
      · refine V_iconst (v := 0) dX6_setting_24 (by decide) ?_
        refine V_goto (tgt := 36) dX6_setting_25 (by decide) ?_
        exact V_iret rfl dX6_setting_36 (by decide) (by decide) (xN_b hc (kdO_1 c) _)
    · exact absurd (bIf (not_not_intro c)) h10
  · have c' := c
    rw [not_or] at c'
    obtain ⟨k, hk, ek⟩ := xIdx (N := 4) (by decide) c'.1 c'.2
    have e1 : w.toNatClampNeg = k := by rw [ek, nI_clamp (by omega)]
    refine V_ald0 dX6_setting_0 ?_
    refine V_ild1 dX6_setting_1 ?_
    refine V_i2l dX6_setting_2 ?_
    refine V_lconst (v := 0) dX6_setting_3 (by decide) ?_
    refine V_ldc2 dX6_setting_4 mk_X6_139 ?_
    refine V_cs3R lk_X6_86 cc_X6_in dX6_setting_7 (c_X6_inI w 0 4) ft_X6_setting_X6_in rfl rfl (Nat.le_of_ble_eq_true rfl) ?_
    refine V_if_eq (tgt := 17) dX6_setting_10 (by decide) (fun h10 => ?_) (fun h10 => ?_)
    · exact absurd (bIt c) (by rw [h10]; decide)
    · refine V_iconst (v := 0) dX6_setting_13 (by decide) ?_
      refine V_goto (tgt := 18) dX6_setting_14 (by decide) ?_
      refine V_cv1R lk_X6_93 cc_X6_refused dX6_setting_18 (by assumption) (c_X6_refused h0 0) ft_X6_setting_X6_refused rfl rfl (Nat.le_of_ble_eq_true rfl) ?_
      refine V_if_eq (tgt := 28) dX6_setting_21 (by decide) (fun h21 => ?_) (fun h21 => ?_)
      · refine V_ald0 dX6_setting_28 ?_
        refine V_getR fd_X6_16 dX6_setting_29 (by assumption) (by assumption) rfl ?_
        refine V_iconst (v := 1) dX6_setting_32 (by decide) ?_
        refine V_ild1 dX6_setting_33 ?_
        refine V_iadd dX6_setting_34 ?_
        refine V_iald (j := 1 + k) dX6_setting_35 (by assumption) (by rw [ek]; exact nI_add 1 k) (by omega) ?_
        exact V_iret rfl dX6_setting_36 (by decide) (by decide) (xN_g hc (kdO_0 c) (by rw [hr, e1]))
      · exact absurd (by decide) h21
theorem c_X6_bin (h : rM n K G m) (hc : MRel M m S) (k w : Int32) : Con E l Y_X6_bin [.ref m, .int k, .int w] (x, n, K, G, M, L) (xN (kdBin k w) (aBin S.2.2.1 k.toNatClampNeg w) S m x n K G M L) xF := by
  obtain ⟨h0, -, -, -, -, g6, h3, -⟩ := h
  have hr := hc.r0
  refine Con.mk 0 mp_X6_bin rfl (ls := [some (.ref m), some (.int k), some (.int w)]) rfl (Nat.le_of_ble_eq_true rfl) ?_
  by_cases c : k < 0 ∨ 7 < k
  · refine V_ald0 dX6_bin_0 ?_
    refine V_ild1 dX6_bin_1 ?_
    refine V_cs1R lk_X6_143 cc_X6_isBin dX6_bin_2 (c_X6_isBin k) ft_X6_bin_X6_isBin rfl rfl (Nat.le_of_ble_eq_true rfl) ?_
    refine V_if_ne (tgt := 12) dX6_bin_5 (by decide) (fun h5 => ?_) (fun h5 => ?_)
    · exact absurd (bIf (not_not_intro c)) h5
    · refine V_iconst (v := 1) dX6_bin_8 (by decide) ?_
      refine V_goto (tgt := 29) dX6_bin_9 (by decide) ?_
      refine V_cv1R lk_X6_93 cc_X6_refused dX6_bin_29 (by assumption) (c_X6_refused h0 1) ft_X6_bin_X6_refused rfl rfl (Nat.le_of_ble_eq_true rfl) ?_
      refine V_if_eq (tgt := 37) dX6_bin_32 (by decide) (fun h32 => ?_) (fun h32 => ?_)
      · exact absurd h32 (by decide)
      · refine V_iconst (v := 0) dX6_bin_35 (by decide) ?_
        exact V_iret rfl dX6_bin_36 (by decide) (by decide) (xN_b hc (by unfold kdBin; rw [if_pos c]) _)
  · have c' := c
    rw [not_or] at c'
    obtain ⟨j, hj, ej⟩ := xIdx (N := 7) (by decide) c'.1 c'.2
    have e1 : k.toNatClampNeg = j := by rw [ej, nI_clamp (by omega)]
    rw [e1]
    by_cases d : w < 0 ∨ 4 < w
    · have kd : kdBin k w = 2 := by
        unfold kdBin
        rw [if_neg c, if_neg]
        rintro (q | q | q | q | q) <;> subst q <;> revert d <;> decide
      refine V_ald0 dX6_bin_0 ?_
      refine V_ild1 dX6_bin_1 ?_
      refine V_cs1R lk_X6_143 cc_X6_isBin dX6_bin_2 (c_X6_isBin k) ft_X6_bin_X6_isBin rfl rfl (Nat.le_of_ble_eq_true rfl) ?_
      refine V_if_ne (tgt := 12) dX6_bin_5 (by decide) (fun h5 => ?_) (fun h5 => ?_)
      · refine V_ild2 dX6_bin_12 ?_
        refine V_i2l dX6_bin_13 ?_
        refine V_lconst (v := 0) dX6_bin_14 (by decide) ?_
        refine V_ldc2 dX6_bin_15 mk_X6_139 ?_
        refine V_cs3R lk_X6_86 cc_X6_in dX6_bin_18 (c_X6_inI w 0 4) ft_X6_bin_X6_in rfl rfl (Nat.le_of_ble_eq_true rfl) ?_
        refine V_if_eq (tgt := 28) dX6_bin_21 (by decide) (fun h21 => ?_) (fun h21 => ?_)
        · refine V_iconst (v := 2) dX6_bin_28 (by decide) ?_
          refine V_cv1R lk_X6_93 cc_X6_refused dX6_bin_29 (by assumption) (c_X6_refused h0 2) ft_X6_bin_X6_refused rfl rfl (Nat.le_of_ble_eq_true rfl) ?_
          refine V_if_eq (tgt := 37) dX6_bin_32 (by decide) (fun h32 => ?_) (fun h32 => ?_)
          · exact absurd h32 (by decide)
          · refine V_iconst (v := 0) dX6_bin_35 (by decide) ?_
            exact V_iret rfl dX6_bin_36 (by decide) (by decide) (xN_b2 hc kd _)
        · exact absurd (bIf (not_not_intro d)) h21
      · exact absurd (bIt c) (by rw [h5]; decide)
    · have d' := d
      rw [not_or] at d'
      obtain ⟨i, hi, ei⟩ := xIdx (N := 4) (by decide) d'.1 d'.2
      have z0 : w = 0 ↔ i = 0 := by rw [ei]; exact nI_eq (b := 0) (by omega) (by decide)
      have z1 : w = 1 ↔ i = 1 := by rw [ei]; exact nI_eq (b := 1) (by omega) (by decide)
      have z2 : w = 2 ↔ i = 2 := by rw [ei]; exact nI_eq (b := 2) (by omega) (by decide)
      have z3 : w = 3 ↔ i = 3 := by rw [ei]; exact nI_eq (b := 3) (by omega) (by decide)
      have z4 : w = 4 ↔ i = 4 := by rw [ei]; exact nI_eq (b := 4) (by omega) (by decide)
      have kd : kdBin k w = 0 := by unfold kdBin; rw [if_neg c, if_pos (by rw [z0, z1, z2, z3, z4]; omega)]
      refine V_ald0 dX6_bin_0 ?_
      refine V_ild1 dX6_bin_1 ?_
      refine V_cs1R lk_X6_143 cc_X6_isBin dX6_bin_2 (c_X6_isBin k) ft_X6_bin_X6_isBin rfl rfl (Nat.le_of_ble_eq_true rfl) ?_
      refine V_if_ne (tgt := 12) dX6_bin_5 (by decide) (fun h5 => ?_) (fun h5 => ?_)
      · refine V_ild2 dX6_bin_12 ?_
        refine V_i2l dX6_bin_13 ?_
        refine V_lconst (v := 0) dX6_bin_14 (by decide) ?_
        refine V_ldc2 dX6_bin_15 mk_X6_139 ?_
        refine V_cs3R lk_X6_86 cc_X6_in dX6_bin_18 (c_X6_inI w 0 4) ft_X6_bin_X6_in rfl rfl (Nat.le_of_ble_eq_true rfl) ?_
        refine V_if_eq (tgt := 28) dX6_bin_21 (by decide) (fun h21 => ?_) (fun h21 => ?_)
        · exact absurd (bIt d) (by rw [h21]; decide)
        · refine V_iconst (v := 0) dX6_bin_24 (by decide) ?_
          refine V_goto (tgt := 29) dX6_bin_25 (by decide) ?_
          refine V_cv1R lk_X6_93 cc_X6_refused dX6_bin_29 (by assumption) (c_X6_refused h0 0) ft_X6_bin_X6_refused rfl rfl (Nat.le_of_ble_eq_true rfl) ?_
          refine V_if_eq (tgt := 37) dX6_bin_32 (by decide) (fun h32 => ?_) (fun h32 => ?_)
          · refine V_ild2 dX6_bin_37 ?_
            refine V_if_ne (tgt := 52) dX6_bin_38 (by decide) (fun h38 => ?_) (fun h38 => ?_)
            · refine V_ild2 dX6_bin_52 ?_
              refine V_iconst (v := 1) dX6_bin_53 (by decide) ?_
              refine V_icmp_ne (tgt := 68) dX6_bin_54 (by decide) (fun h54 => ?_) (fun h54 => ?_)
              · refine V_ald0 dX6_bin_68 ?_
                refine V_getR fd_X6_16 dX6_bin_69 (by assumption) (by assumption) rfl ?_
                refine V_bipush (v := 23) dX6_bin_72 (by decide) ?_
                refine V_iconst (v := 3) dX6_bin_74 (by decide) ?_
                refine V_ild1 dX6_bin_75 ?_
                refine V_imul dX6_bin_76 ?_
                refine V_iadd dX6_bin_77 ?_
                refine V_ild2 dX6_bin_78 ?_
                refine V_iadd dX6_bin_79 ?_
                refine V_iconst (v := 2) dX6_bin_80 (by decide) ?_
                refine V_isub dX6_bin_81 ?_
                refine V_iald (j := 21 + 3 * j + i) dX6_bin_82 (by assumption) (by rw [ej, ei, kI_23, nI_add, show nI (23 + 3 * j + i) - 2 = nI (23 + 3 * j + i - 2) from pkSub (b := 2) (by omega)]; congr 1; omega) (by omega) ?_
                exact V_iret rfl dX6_bin_83 (by decide) (by decide) (by
  first
  | (guard_hyp h38 : w = 0; exact xN_g hc kd (by rw [hr]; unfold aBin; rw [if_pos h38]))
  | (guard_hyp h54 : w = 1; exact xN_g hc kd (by rw [hr]; unfold aBin; rw [if_neg h38, if_pos h54]))
  | (refine xN_g hc kd ?_
     rw [hr]
     unfold aBin
     rw [if_neg h38, if_neg h54]
     have n0 : i ≠ 0 := fun q => h38 (z0.mpr q)
     have n1 : i ≠ 1 := fun q => h54 (z1.mpr q)
     have hc3 : i = 2 ∨ i = 3 ∨ i = 4 := by omega
     rcases hc3 with q | q | q
     · rw [if_pos (z2.mpr q)]; exact congrArg S.2.2.1 (by omega)
     · rw [if_neg (fun z => by have := z2.mp z; omega), if_pos (z3.mpr q)]; exact congrArg S.2.2.1 (by omega)
     · rw [if_neg (fun z => by have := z2.mp z; omega), if_neg (fun z => by have := z3.mp z; omega)]; exact congrArg S.2.2.1 (by omega)))
              · refine V_ald0 dX6_bin_57 ?_
                refine V_getR fd_X6_16 dX6_bin_58 (by assumption) (by assumption) rfl ?_
                refine V_ild1 dX6_bin_61 ?_
                refine V_top (w := .int (nI j)) (by rw [ej]) ?_
                refine V_cs2R lk_X6_149 cc_X6_high dX6_bin_62 (c_X6_high h3 (k := j) (by omega)) ft_X6_bin_X6_high rfl rfl (Nat.le_of_ble_eq_true rfl) ?_
                refine V_goto (tgt := 83) dX6_bin_65 (by decide) ?_
                exact V_iret rfl dX6_bin_83 (by decide) (by decide) (by
  first
  | (guard_hyp h38 : w = 0; exact xN_g hc kd (by rw [hr]; unfold aBin; rw [if_pos h38]))
  | (guard_hyp h54 : w = 1; exact xN_g hc kd (by rw [hr]; unfold aBin; rw [if_neg h38, if_pos h54]))
  | (refine xN_g hc kd ?_
     rw [hr]
     unfold aBin
     rw [if_neg h38, if_neg h54]
     have n0 : i ≠ 0 := fun q => h38 (z0.mpr q)
     have n1 : i ≠ 1 := fun q => h54 (z1.mpr q)
     have hc3 : i = 2 ∨ i = 3 ∨ i = 4 := by omega
     rcases hc3 with q | q | q
     · rw [if_pos (z2.mpr q)]; exact congrArg S.2.2.1 (by omega)
     · rw [if_neg (fun z => by have := z2.mp z; omega), if_pos (z3.mpr q)]; exact congrArg S.2.2.1 (by omega)
     · rw [if_neg (fun z => by have := z2.mp z; omega), if_neg (fun z => by have := z3.mp z; omega)]; exact congrArg S.2.2.1 (by omega)))
            · refine V_ald0 dX6_bin_41 ?_
              refine V_getR fd_X6_16 dX6_bin_42 (by assumption) (by assumption) rfl ?_
              refine V_ild1 dX6_bin_45 ?_
              refine V_top (w := .int (nI j)) (by rw [ej]) ?_
              refine V_cs2R lk_X6_146 cc_X6_low dX6_bin_46 (c_X6_low h3 (k := j) (by omega)) ft_X6_bin_X6_low rfl rfl (Nat.le_of_ble_eq_true rfl) ?_
              refine V_goto (tgt := 83) dX6_bin_49 (by decide) ?_
              exact V_iret rfl dX6_bin_83 (by decide) (by decide) (by
  first
  | (guard_hyp h38 : w = 0; exact xN_g hc kd (by rw [hr]; unfold aBin; rw [if_pos h38]))
  | (guard_hyp h54 : w = 1; exact xN_g hc kd (by rw [hr]; unfold aBin; rw [if_neg h38, if_pos h54]))
  | (refine xN_g hc kd ?_
     rw [hr]
     unfold aBin
     rw [if_neg h38, if_neg h54]
     have n0 : i ≠ 0 := fun q => h38 (z0.mpr q)
     have n1 : i ≠ 1 := fun q => h54 (z1.mpr q)
     have hc3 : i = 2 ∨ i = 3 ∨ i = 4 := by omega
     rcases hc3 with q | q | q
     · rw [if_pos (z2.mpr q)]; exact congrArg S.2.2.1 (by omega)
     · rw [if_neg (fun z => by have := z2.mp z; omega), if_pos (z3.mpr q)]; exact congrArg S.2.2.1 (by omega)
     · rw [if_neg (fun z => by have := z2.mp z; omega), if_neg (fun z => by have := z3.mp z; omega)]; exact congrArg S.2.2.1 (by omega)))
          · exact absurd (by decide) h32
      · exact absurd (bIt c) (by rw [h5]; decide)
theorem c_X6_pulse (h : rM n K G m) (hc : MRel M m S) (w : Int32) : Con E l Y_X6_pulse [.ref m, .int w] (x, n, K, G, M, L) (xN (kdO w 0 3) (aPulse S.2.2.1 w) S m x n K G M L) xF := by
  obtain ⟨h0, -, -, -, -, g6, h3, -⟩ := h
  have hr := hc.r0
  refine Con.mk 0 mp_X6_pulse rfl (ls := [some (.ref m), some (.int w)]) rfl (Nat.le_of_ble_eq_true rfl) ?_
  by_cases c : w < 0 ∨ 3 < w
  · refine V_ald0 dX6_pulse_0 ?_
    refine V_ild1 dX6_pulse_1 ?_
    refine V_i2l dX6_pulse_2 ?_
    refine V_lconst (v := 0) dX6_pulse_3 (by decide) ?_
    refine V_ldc2 dX6_pulse_4 mk_X6_152 ?_
    refine V_cs3R lk_X6_86 cc_X6_in dX6_pulse_7 (c_X6_inI w 0 3) ft_X6_pulse_X6_in rfl rfl (Nat.le_of_ble_eq_true rfl) ?_
    refine V_if_eq (tgt := 17) dX6_pulse_10 (by decide) (fun h10 => ?_) (fun h10 => ?_)
    · refine V_iconst (v := 1) dX6_pulse_17 (by decide) ?_
      refine V_cv1R lk_X6_93 cc_X6_refused dX6_pulse_18 (by assumption) (c_X6_refused h0 1) ft_X6_pulse_X6_refused rfl rfl (Nat.le_of_ble_eq_true rfl) ?_
      refine V_if_eq (tgt := 26) dX6_pulse_21 (by decide) (fun h21 => ?_) (fun h21 => ?_)
      · exact absurd h21 (by decide)
      · refine V_iconst (v := 0) dX6_pulse_24 (by decide) ?_
        exact V_iret rfl dX6_pulse_25 (by decide) (by decide) (xN_b hc (kdO_1 c) _)
    · exact absurd (bIf (not_not_intro c)) h10
  · refine V_ald0 dX6_pulse_0 ?_
    refine V_ild1 dX6_pulse_1 ?_
    refine V_i2l dX6_pulse_2 ?_
    refine V_lconst (v := 0) dX6_pulse_3 (by decide) ?_
    refine V_ldc2 dX6_pulse_4 mk_X6_152 ?_
    refine V_cs3R lk_X6_86 cc_X6_in dX6_pulse_7 (c_X6_inI w 0 3) ft_X6_pulse_X6_in rfl rfl (Nat.le_of_ble_eq_true rfl) ?_
    refine V_if_eq (tgt := 17) dX6_pulse_10 (by decide) (fun h10 => ?_) (fun h10 => ?_)
    · exact absurd (bIt c) (by rw [h10]; decide)
    · refine V_iconst (v := 0) dX6_pulse_13 (by decide) ?_
      refine V_goto (tgt := 18) dX6_pulse_14 (by decide) ?_
      refine V_cv1R lk_X6_93 cc_X6_refused dX6_pulse_18 (by assumption) (c_X6_refused h0 0) ft_X6_pulse_X6_refused rfl rfl (Nat.le_of_ble_eq_true rfl) ?_
      refine V_if_eq (tgt := 26) dX6_pulse_21 (by decide) (fun h21 => ?_) (fun h21 => ?_)
      · refine V_ald0 dX6_pulse_26 ?_
        refine V_getR fd_X6_16 dX6_pulse_27 (by assumption) (by assumption) rfl ?_
        refine V_bipush (v := 13) dX6_pulse_30 (by decide) ?_
        refine V_iald (j := 13) dX6_pulse_32 (by assumption) (by decide) (by decide) ?_
        refine V_if_ne (tgt := 39) dX6_pulse_33 (by decide) (fun h33 => ?_) (fun h33 => ?_)
        · rw [hr] at h33
          refine V_ild1 dX6_pulse_39 ?_
          refine V_if_ne (tgt := 60) dX6_pulse_40 (by decide) (fun h40 => ?_) (fun h40 => ?_)
          · refine V_ild1 dX6_pulse_60 ?_
            refine V_iconst (v := 1) dX6_pulse_61 (by decide) ?_
            refine V_icmp_ne (tgt := 75) dX6_pulse_62 (by decide) (fun h62 => ?_) (fun h62 => ?_)
            · refine V_ild1 dX6_pulse_75 ?_
              refine V_iconst (v := 2) dX6_pulse_76 (by decide) ?_
              refine V_icmp_ne (tgt := 90) dX6_pulse_77 (by decide) (fun h77 => ?_) (fun h77 => ?_)
              · refine V_ald0 dX6_pulse_90 ?_
                refine V_getR fd_X6_16 dX6_pulse_91 (by assumption) (by assumption) rfl ?_
                refine V_bipush (v := 15) dX6_pulse_94 (by decide) ?_
                refine V_iald (j := 15) dX6_pulse_96 (by assumption) (by decide) (by decide) ?_
                exact V_iret rfl dX6_pulse_97 (by decide) (by decide) (by
  first
  | (guard_hyp h40 : w = 0; exact xN_g hc (kdO_0 c) (by rw [hr]; unfold aPulse; rw [if_neg h33, if_pos h40]))
  | (guard_hyp h62 : w = 1; exact xN_g hc (kdO_0 c) (by rw [hr]; unfold aPulse; rw [if_neg h33, if_neg h40, if_pos h62]))
  | (guard_hyp h77 : w = 2; exact xN_g hc (kdO_0 c) (by rw [hr]; unfold aPulse; rw [if_neg h33, if_neg h40, if_neg h62, if_pos h77]))
  | exact xN_g hc (kdO_0 c) (by rw [hr]; unfold aPulse; rw [if_neg h33, if_neg h40, if_neg h62, if_neg h77]))
              · refine V_ald0 dX6_pulse_80 ?_
                refine V_getR fd_X6_16 dX6_pulse_81 (by assumption) (by assumption) rfl ?_
                refine V_bipush (v := 14) dX6_pulse_84 (by decide) ?_
                refine V_iald (j := 14) dX6_pulse_86 (by assumption) (by decide) (by decide) ?_
                refine V_goto (tgt := 97) dX6_pulse_87 (by decide) ?_
                exact V_iret rfl dX6_pulse_97 (by decide) (by decide) (by
  first
  | (guard_hyp h40 : w = 0; exact xN_g hc (kdO_0 c) (by rw [hr]; unfold aPulse; rw [if_neg h33, if_pos h40]))
  | (guard_hyp h62 : w = 1; exact xN_g hc (kdO_0 c) (by rw [hr]; unfold aPulse; rw [if_neg h33, if_neg h40, if_pos h62]))
  | (guard_hyp h77 : w = 2; exact xN_g hc (kdO_0 c) (by rw [hr]; unfold aPulse; rw [if_neg h33, if_neg h40, if_neg h62, if_pos h77]))
  | exact xN_g hc (kdO_0 c) (by rw [hr]; unfold aPulse; rw [if_neg h33, if_neg h40, if_neg h62, if_neg h77]))
            · refine V_ald0 dX6_pulse_65 ?_
              refine V_getR fd_X6_16 dX6_pulse_66 (by assumption) (by assumption) rfl ?_
              refine V_bipush (v := 12) dX6_pulse_69 (by decide) ?_
              refine V_iald (j := 12) dX6_pulse_71 (by assumption) (by decide) (by decide) ?_
              refine V_goto (tgt := 97) dX6_pulse_72 (by decide) ?_
              exact V_iret rfl dX6_pulse_97 (by decide) (by decide) (by
  first
  | (guard_hyp h40 : w = 0; exact xN_g hc (kdO_0 c) (by rw [hr]; unfold aPulse; rw [if_neg h33, if_pos h40]))
  | (guard_hyp h62 : w = 1; exact xN_g hc (kdO_0 c) (by rw [hr]; unfold aPulse; rw [if_neg h33, if_neg h40, if_pos h62]))
  | (guard_hyp h77 : w = 2; exact xN_g hc (kdO_0 c) (by rw [hr]; unfold aPulse; rw [if_neg h33, if_neg h40, if_neg h62, if_pos h77]))
  | exact xN_g hc (kdO_0 c) (by rw [hr]; unfold aPulse; rw [if_neg h33, if_neg h40, if_neg h62, if_neg h77]))
          · refine V_ald0 dX6_pulse_43 ?_
            refine V_getR fd_X6_16 dX6_pulse_44 (by assumption) (by assumption) rfl ?_
            refine V_iconst (v := 0) dX6_pulse_47 (by decide) ?_
            refine V_iald (j := 0) dX6_pulse_48 (by assumption) (by decide) (by decide) ?_
            refine V_ald0 dX6_pulse_49 ?_
            refine V_getR fd_X6_16 dX6_pulse_50 (by assumption) (by assumption) rfl ?_
            refine V_bipush (v := 11) dX6_pulse_53 (by decide) ?_
            refine V_iald (j := 11) dX6_pulse_55 (by assumption) (by decide) (by decide) ?_
            refine V_isub dX6_pulse_56 ?_
            refine V_goto (tgt := 97) dX6_pulse_57 (by decide) ?_
            exact V_iret rfl dX6_pulse_97 (by decide) (by decide) (by
  first
  | (guard_hyp h40 : w = 0; exact xN_g hc (kdO_0 c) (by rw [hr]; unfold aPulse; rw [if_neg h33, if_pos h40]))
  | (guard_hyp h62 : w = 1; exact xN_g hc (kdO_0 c) (by rw [hr]; unfold aPulse; rw [if_neg h33, if_neg h40, if_pos h62]))
  | (guard_hyp h77 : w = 2; exact xN_g hc (kdO_0 c) (by rw [hr]; unfold aPulse; rw [if_neg h33, if_neg h40, if_neg h62, if_pos h77]))
  | exact xN_g hc (kdO_0 c) (by rw [hr]; unfold aPulse; rw [if_neg h33, if_neg h40, if_neg h62, if_neg h77]))
        · rw [hr] at h33
          refine V_bipush (v := (-9)) dX6_pulse_36 (by decide) ?_
          exact V_iret rfl dX6_pulse_38 (by decide) (by decide) (xN_g hc (kdO_0 c) (by unfold aPulse; rw [if_pos h33]))
      · exact absurd (by decide) h21
theorem c_X6_fate (h : rM n K G m) (hc : MRel M m S) (hw : WFr S.2.2.1 T B) (i : Int32) : Con E l Y_X6_fate [.ref m, .int i] (x, n, K, G, M, L) (xN (if i < 0 then 1 else 0) (aFate S.2.2.1 (S.2.2.1 47).toNatClampNeg i.toNatClampNeg) S m x n K G M L) xF := by
  obtain ⟨h0, -, -, -, -, g6, h3, -⟩ := h
  have hr := hc.r0
  obtain ⟨l60, e47⟩ := hw.len
  have el : (S.2.2.1 47).toNatClampNeg = xLf S.2.2.1 := rfl
  rw [el]
  generalize xLf S.2.2.1 = lf at *
  refine Con.mk 0 mp_X6_fate rfl (ls := [some (.ref m), some (.int i)]) rfl (Nat.le_of_ble_eq_true rfl) ?_
  by_cases c : i < 0
  · refine V_ald0 dX6_fate_0 ?_
    refine V_ild1 dX6_fate_1 ?_
    refine V_if_ge (tgt := 9) dX6_fate_2 (by decide) (fun h2 => ?_) (fun h2 => ?_)
    · exact absurd c h2
    · refine V_iconst (v := 1) dX6_fate_5 (by decide) ?_
      refine V_goto (tgt := 10) dX6_fate_6 (by decide) ?_
      refine V_cv1R lk_X6_93 cc_X6_refused dX6_fate_10 (by assumption) (c_X6_refused h0 1) ft_X6_fate_X6_refused rfl rfl (Nat.le_of_ble_eq_true rfl) ?_
      refine V_if_eq (tgt := 18) dX6_fate_13 (by decide) (fun h13 => ?_) (fun h13 => ?_)
      · exact absurd h13 (by decide)
      · refine V_iconst (v := 0) dX6_fate_16 (by decide) ?_
        exact V_iret rfl dX6_fate_17 (by decide) (by decide) (xN_b hc (if_pos c) _)
  · obtain ⟨j, j1, ej⟩ := nI_of c
    have e1 : i.toNatClampNeg = j := by rw [ej, nI_clamp j1]
    rw [e1]
    have lt : i < nI lf ↔ j < lf := by rw [ej]; exact nI_ltI j1 (by omega)
    refine V_ald0 dX6_fate_0 ?_
    refine V_ild1 dX6_fate_1 ?_
    refine V_if_ge (tgt := 9) dX6_fate_2 (by decide) (fun h2 => ?_) (fun h2 => ?_)
    · refine V_iconst (v := 0) dX6_fate_9 (by decide) ?_
      refine V_cv1R lk_X6_93 cc_X6_refused dX6_fate_10 (by assumption) (c_X6_refused h0 0) ft_X6_fate_X6_refused rfl rfl (Nat.le_of_ble_eq_true rfl) ?_
      refine V_if_eq (tgt := 18) dX6_fate_13 (by decide) (fun h13 => ?_) (fun h13 => ?_)
      · refine V_ild1 dX6_fate_18 ?_
        refine V_ald0 dX6_fate_19 ?_
        refine V_getR fd_X6_16 dX6_fate_20 (by assumption) (by assumption) rfl ?_
        refine V_bipush (v := 47) dX6_fate_23 (by decide) ?_
        refine V_iald (j := 47) dX6_fate_25 (by assumption) (by decide) (by decide) ?_
        refine V_icmp_ge (tgt := 51) dX6_fate_26 (by decide) (fun h26 => ?_) (fun h26 => ?_)
        · rw [hr, e47, lt] at h26
          refine V_bipush (v := (-9)) dX6_fate_51 (by decide) ?_
          exact V_iret rfl dX6_fate_53 (by decide) (by decide) (by
  first
  | (guard_hyp h26 : j < lf; exact xN_g hc (if_neg c) (by rw [hr]; unfold aFate; rw [if_pos h26]))
  | exact xN_g hc (if_neg c) (by unfold aFate; rw [if_neg h26]))
        · rw [hr, e47, lt] at h26
          refine V_ald0 dX6_fate_29 ?_
          refine V_getR fd_X6_16 dX6_fate_30 (by assumption) (by assumption) rfl ?_
          refine V_bipush (v := 48) dX6_fate_33 (by decide) ?_
          refine V_ald0 dX6_fate_35 ?_
          refine V_getR fd_X6_16 dX6_fate_36 (by assumption) (by assumption) rfl ?_
          refine V_bipush (v := 47) dX6_fate_39 (by decide) ?_
          refine V_iald (j := 47) dX6_fate_41 (by assumption) (by decide) (by decide) ?_
          refine V_iadd dX6_fate_42 ?_
          refine V_iconst (v := 1) dX6_fate_43 (by decide) ?_
          refine V_isub dX6_fate_44 ?_
          refine V_ild1 dX6_fate_45 ?_
          refine V_isub dX6_fate_46 ?_
          refine V_iald (j := 48 + (lf - 1 - j)) dX6_fate_47 (by assumption) (by rw [hr, e47, ej, show (48 : Int32) + nI lf = nI (48 + lf) from nI_add 48 lf, show nI (48 + lf) - 1 = nI (48 + lf - 1) from pkSub (b := 1) (by omega), pkSub (by omega)]; congr 1; omega) (by omega) ?_
          refine V_goto (tgt := 53) dX6_fate_48 (by decide) ?_
          exact V_iret rfl dX6_fate_53 (by decide) (by decide) (by
  first
  | (guard_hyp h26 : j < lf; exact xN_g hc (if_neg c) (by rw [hr]; unfold aFate; rw [if_pos h26]))
  | exact xN_g hc (if_neg c) (by unfold aFate; rw [if_neg h26]))
      · exact absurd (by decide) h13
    · exact absurd h2 c
theorem c_X6_rain (h : rM n K G m) (hc : MRel M m S) (hw : WFr S.2.2.1 T B) (w : Int32) : Con E l Y_X6_rain [.ref m, .int w] (x, n, K, G, M, L) (xNl (kdO w 0 2) (aRain S.2.2.1 w 8) S m x n K G M L) xF := by
  obtain ⟨h0, -, -, -, -, g6, h3, -⟩ := h
  have hr := hc.r0
  obtain ⟨N, hN⟩ : ∃ N, N = 8 := ⟨8, rfl⟩
  refine Con.mk 0 mp_X6_rain rfl (ls := [some (.ref m), some (.int w)]) rfl (Nat.le_of_ble_eq_true rfl) ?_
  by_cases c : w < 0 ∨ 2 < w
  · refine V_ald0 dX6_rain_0 ?_
    refine V_ild1 dX6_rain_1 ?_
    refine V_i2l dX6_rain_2 ?_
    refine V_lconst (v := 0) dX6_rain_3 (by decide) ?_
    refine V_ldc2 dX6_rain_4 mk_X6_167 ?_
    refine V_cs3R lk_X6_86 cc_X6_in dX6_rain_7 (c_X6_inI w 0 2) ft_X6_rain_X6_in rfl rfl (Nat.le_of_ble_eq_true rfl) ?_
    refine V_if_eq (tgt := 17) dX6_rain_10 (by decide) (fun h10 => ?_) (fun h10 => ?_)
    · refine V_iconst (v := 1) dX6_rain_17 (by decide) ?_
      refine V_cv1R lk_X6_93 cc_X6_refused dX6_rain_18 (by assumption) (c_X6_refused h0 1) ft_X6_rain_X6_refused rfl rfl (Nat.le_of_ble_eq_true rfl) ?_
      refine V_if_eq (tgt := 28) dX6_rain_21 (by decide) (fun h21 => ?_) (fun h21 => ?_)
      · exact absurd h21 (by decide)
      · refine V_lconst (v := 0) dX6_rain_24 (by decide) ?_
        refine V_goto (tgt := 36) dX6_rain_25 (by decide) ?_
        exact V_lret rfl dX6_rain_36 (by decide) (by decide) (xNl_b hc (kdO_1 c) _)
    · exact absurd (bIf (not_not_intro c)) h10
  · refine V_ald0 dX6_rain_0 ?_
    refine V_ild1 dX6_rain_1 ?_
    refine V_i2l dX6_rain_2 ?_
    refine V_lconst (v := 0) dX6_rain_3 (by decide) ?_
    refine V_ldc2 dX6_rain_4 mk_X6_167 ?_
    refine V_cs3R lk_X6_86 cc_X6_in dX6_rain_7 (c_X6_inI w 0 2) ft_X6_rain_X6_in rfl rfl (Nat.le_of_ble_eq_true rfl) ?_
    refine V_if_eq (tgt := 17) dX6_rain_10 (by decide) (fun h10 => ?_) (fun h10 => ?_)
    · exact absurd (bIt c) (by rw [h10]; decide)
    · refine V_iconst (v := 0) dX6_rain_13 (by decide) ?_
      refine V_goto (tgt := 18) dX6_rain_14 (by decide) ?_
      refine V_cv1R lk_X6_93 cc_X6_refused dX6_rain_18 (by assumption) (c_X6_refused h0 0) ft_X6_rain_X6_refused rfl rfl (Nat.le_of_ble_eq_true rfl) ?_
      refine V_if_eq (tgt := 28) dX6_rain_21 (by decide) (fun h21 => ?_) (fun h21 => ?_)
      · refine V_ald0 dX6_rain_28 ?_
        refine V_getR fd_X6_16 dX6_rain_29 (by assumption) (by assumption) rfl ?_
        refine V_ild1 dX6_rain_32 ?_
        refine V_cs2R lk_X6_169 cc_X6_rainOf dX6_rain_33 (c_X6_rainOf h3 (by rw [hr]; exact hw) w) ft_X6_rain_X6_rainOf rfl rfl (Nat.le_of_ble_eq_true rfl) ?_
        exact V_lret rfl dX6_rain_36 (by decide) (by decide) (xNl_g hc (kdO_0 c) (by rw [hr]))
      · exact absurd (by decide) h21
theorem c_X6_trueRain (h : rM n K G m) (hc : MRel M m S) : Con E l Y_X6_trueRain [.ref m] (x, n, K, G, M, L) (xNl 0 (S.2.2.1 190).toInt64 S m x n K G M L) xF := by
  obtain ⟨h0, -, -, -, -, g6, h3, -⟩ := h
  have hr := hc.r0
  refine Con.mk 0 mp_X6_trueRain rfl (ls := [some (.ref m)]) rfl (Nat.le_of_ble_eq_true rfl) ?_
  refine V_ald0 dX6_trueRain_0 ?_
  refine V_iconst (v := 0) dX6_trueRain_1 (by decide) ?_
  refine V_putI fw_X6_36 dX6_trueRain_2 (by assumption) rfl ?_
  refine V_ald0 dX6_trueRain_5 ?_
  refine V_getR fd_X6_16 dX6_trueRain_6 (by assumption) (by assumption) rfl ?_
  refine V_sipush (v := 190) dX6_trueRain_9 (by decide) ?_
  refine V_iald (j := 190) dX6_trueRain_12 (by assumption) (by decide) (by decide) ?_
  refine V_i2l dX6_trueRain_13 ?_
  exact V_lret rfl dX6_trueRain_14 (by decide) (by decide) (xNl_g hc rfl (by rw [hr]))
end C55

/-! ===== the reference: a command on what is tried ===== -/
section P64
variable {M M' : xMem} {L : xLng} {R Q : xRow} {T B m k : Nat} {x : Bool} {n : Nat} {K : xKnd} {G : xRef}
theorem dNo (hq : M (m + 4) = Q) (hb : ¬ rCmdB Q k = true) : xR (some (.int (bI (rCmdB Q k = true)))) (x, n, K, G, xro M (m + 4) (rCmdR Q k), L) (some (.int 0)) (x, n, K, G, M, L) :=
  ⟨by rw [bIf hb], by rw [rCmdR_no hb, ← hq, xro_id]⟩
theorem dYes (hq : M (m + 4) = Q) (hb : rCmdB Q k = true) (h4 : 4 ≤ k / 10000) : xR (some (.int (bI (rCmdB Q k = true)))) (x, n, K, G, xro M (m + 4) (rCmdR Q k), L) (some (.int 1)) (x, n, K, G, M, L) :=
  ⟨by rw [bIt hb], by rw [rCmdR_same h4, ← hq, xro_id]⟩
theorem kdFall_n {d z : Nat} (hd : d ≤ 99) (hz : z ≤ 99) : kdFall (nI d) (nI z) = 0 ↔ (1 ≤ z ∧ z ≤ 60) := by
  have key : (¬ (nI d < 0 ∨ 99 < nI d) ∧ ¬ (nI z < 1 ∨ 60 < nI z)) ↔ (1 ≤ z ∧ z ≤ 60) := by
    rw [not_or, not_or, show (99 : Int32) < nI d ↔ 99 < d from nI_ltI (by decide) (by omega), show nI z < 1 ↔ z < 1 from nI_ltI (by omega) (by decide), show (60 : Int32) < nI z ↔ 60 < z from nI_ltI (by decide) (by omega)]
    exact ⟨fun q => by omega, fun q => ⟨⟨nI_pos (by omega), by omega⟩, by omega, by omega⟩⟩
  rw [← key]
  unfold kdFall
  constructor
  · intro q; split at q; assumption; exact absurd q (by decide)
  · intro q; rw [if_pos q]
end P64
section C64
variable {E : xEnv} {l : Launch} {x : Bool} {n : Nat} {K : xKnd} {G : xRef} {M : xMem} {L : xLng} {a m T B : Nat} {Q : xRow}
theorem c_X6_does (h : rM n K G m) (hq : M (m + 4) = Q) (hw : WFr Q T B) {k : Nat} (hk : k < 100000) : Con E l Y_X6_does [.ref m, .int (nI k)] (x, n, K, G, M, L) (xR (some (.int (bI (rCmdB Q k = true)))) (x, n, K, G, xro M (m + 4) (rCmdR Q k), L)) xF := by
  obtain ⟨h0, -, -, -, -, g6, h3, g7, h4, -⟩ := h
  obtain ⟨l60, e47⟩ := hw.len
  have el : (Q 47).toNatClampNeg = xLf Q := rfl
  have e1 : nI k / 10000 = nI (k / 10000) := pkD k 10000 (by omega) (by decide) (by decide)
  have e2 : nI k / 1000 - nI k / 1000 / 10 * 10 = nI (k / 1000 % 10) := by rw [show nI k / 1000 = nI (k / 1000) from pkD k 1000 (by omega) (by decide) (by decide)]; exact pkR _ 10 (by omega) (by decide) (by decide)
  have e3 : nI k / 100 - nI k / 100 / 10 * 10 = nI (k / 100 % 10) := by rw [show nI k / 100 = nI (k / 100) from pkD k 100 (by omega) (by decide) (by decide)]; exact pkR _ 10 (by omega) (by decide) (by decide)
  have e8 : nI k / 100 - nI k / 100 / 100 * 100 = nI (k / 100 % 100) := by rw [show nI k / 100 = nI (k / 100) from pkD k 100 (by omega) (by decide) (by decide)]; exact pkR _ 100 (by omega) (by decide) (by decide)
  have e4 : nI k - nI k / 100 * 100 = nI (k % 100) := pkR k 100 (by omega) (by decide) (by decide)
  have e5 : nI k - nI k / 1000 * 1000 = nI (k % 1000) := pkR k 1000 (by omega) (by decide) (by decide)
  have e6 : nI k - nI k / 10000 * 10000 = nI (k % 10000) := pkR k 10000 (by omega) (by decide) (by decide)
  have z2 : nI (k / 1000 % 10) = 0 ↔ k / 1000 % 10 = 0 := nI_eq (b := 0) (by omega) (by decide)
  have z3 : nI (k / 100 % 10) = 0 ↔ k / 100 % 10 = 0 := nI_eq (b := 0) (by omega) (by decide)
  have z4 : nI (k % 100) = 0 ↔ k % 100 = 0 := nI_eq (b := 0) (by omega) (by decide)
  have y4 : nI (k / 1000 % 10) < 4 ↔ k / 1000 % 10 < 4 := nI_ltI (b := 4) (by omega) (by decide)
  have y5 : nI (k % 1000) < 4 ↔ k % 1000 < 4 := nI_ltI (b := 4) (by omega) (by decide)
  have y2 : nI (k % 1000) < 2 ↔ k % 1000 < 2 := nI_ltI (b := 2) (by omega) (by decide)
  have lp : 0 < nI (xLf Q) ↔ 0 < xLf Q := nI_ltI (a := 0) (by decide) (by omega)
  have i23 : (23 : Int32) + 3 * nI (k / 1000 % 10) = nI (23 + 3 * (k / 1000 % 10)) := kI_23
  have d7 : ¬ (nI (k / 1000 % 10) < 0 ∨ 7 < nI (k / 1000 % 10)) ↔ k / 1000 % 10 ≤ 7 := by
    rw [not_or, show (7 : Int32) < nI (k / 1000 % 10) ↔ 7 < k / 1000 % 10 from nI_ltI (by decide) (by omega)]
    exact ⟨fun q => by omega, fun q => ⟨nI_pos (by omega), by omega⟩⟩
  refine Con.mk 5 mp_X6_does rfl (ls := [some (.ref m), some (.int (nI k)), none, none, none, none, none]) rfl (Nat.le_of_ble_eq_true rfl) ?_
  refine V_ild1 dX6_does_0 ?_
  refine V_sipush (v := 10000) dX6_does_1 (by decide) ?_
  refine V_idiv dX6_does_4 (by decide) ?_
  rw [e1]
  refine V_ist2 dX6_does_5 rfl (by decide) ?_
  refine V_ild1 dX6_does_6 ?_
  refine V_sipush (v := 1000) dX6_does_7 (by decide) ?_
  refine V_idiv dX6_does_10 (by decide) ?_
  refine V_bipush (v := 10) dX6_does_11 (by decide) ?_
  refine V_irem dX6_does_13 (by decide) ?_
  rw [e2]
  refine V_ist3 dX6_does_14 rfl (by decide) ?_
  refine V_ild1 dX6_does_15 ?_
  refine V_bipush (v := 100) dX6_does_16 (by decide) ?_
  refine V_idiv dX6_does_18 (by decide) ?_
  refine V_bipush (v := 10) dX6_does_19 (by decide) ?_
  refine V_irem dX6_does_21 (by decide) ?_
  rw [e3]
  refine V_ist4 dX6_does_22 rfl (by decide) ?_
  refine V_ild1 dX6_does_24 ?_
  refine V_bipush (v := 100) dX6_does_25 (by decide) ?_
  refine V_irem dX6_does_27 (by decide) ?_
  rw [e4]
  refine V_ist5 dX6_does_28 rfl (by decide) ?_
  refine V_ild1 dX6_does_30 ?_
  refine V_sipush (v := 1000) dX6_does_31 (by decide) ?_
  refine V_irem dX6_does_34 (by decide) ?_
  rw [e5]
  refine V_ist6 dX6_does_35 rfl (by decide) ?_
  refine V_ild2 dX6_does_37 ?_
  refine V_topi (fun y38 e38 => ?_)
  by_cases s38_1 : y38 = 1
  · subst s38_1
    refine V_tableIn (tgt := 84) dX6_does_38 (by decide) (by decide) (off := 46) (by decide) (by decide) ?_
    have c1 : k / 10000 = 1 := ((nI_eq (a := 1) (by decide) (by omega)).mp e38).symm
    refine V_ild1 dX6_does_84 ?_
    refine V_bipush (v := 100) dX6_does_85 (by decide) ?_
    refine V_idiv dX6_does_87 (by decide) ?_
    refine V_bipush (v := 100) dX6_does_88 (by decide) ?_
    refine V_irem dX6_does_90 (by decide) ?_
    rw [e8]
    refine V_ild5 dX6_does_91 ?_
    refine V_cs2R lk_X6_177 cc_X6_isDrop dX6_does_93 (c_X6_isDrop _ _) ft_X6_does_X6_isDrop rfl rfl (Nat.le_of_ble_eq_true rfl) ?_
    refine V_if_ne (tgt := 101) dX6_does_96 (by decide) (fun h96 => ?_) (fun h96 => ?_)
    · rw [bI0, Decidable.not_not, kdFall_n (by omega) (by omega)] at h96
      refine V_ald0 dX6_does_101 ?_
      refine V_getR fd_X6_19 dX6_does_102 (by assumption) (by assumption) rfl ?_
      refine V_ild1 dX6_does_105 ?_
      refine V_bipush (v := 100) dX6_does_106 (by decide) ?_
      refine V_idiv dX6_does_108 (by decide) ?_
      refine V_bipush (v := 100) dX6_does_109 (by decide) ?_
      refine V_irem dX6_does_111 (by decide) ?_
      rw [e8]
      refine V_ild5 dX6_does_112 ?_
      refine V_cs3R lk_X6_117 cc_X6_goDrop dX6_does_114 (c_X6_goDrop h4 (by rw [hq]; exact hw) _ _) ft_X6_does_X6_goDrop rfl rfl (Nat.le_of_ble_eq_true rfl) ?_
      refine V_pop dX6_does_117 rfl ?_
      refine V_iconst (v := 1) dX6_does_118 (by decide) ?_
      exact V_zret rfl dX6_does_119 (Or.inr rfl) (by decide) (by decide) ⟨by rw [rCmdB_1 c1, bIt (decide_eq_true h96)], by rw [hq, rCmdR_1 c1, if_pos h96]⟩
    · rw [bI0, kdFall_n (by omega) (by omega)] at h96
      refine V_iconst (v := 0) dX6_does_99 (by decide) ?_
      exact V_zret rfl dX6_does_100 (Or.inl rfl) (by decide) (by decide) (dNo hq (by rw [rCmdB_1 c1, decide_eq_true_eq]; exact h96))
  by_cases s38_2 : y38 = 2
  · subst s38_2
    refine V_tableIn (tgt := 120) dX6_does_38 (by decide) (by decide) (off := 82) (by decide) (by decide) ?_
    have c1 : k / 10000 = 2 := ((nI_eq (a := 2) (by decide) (by omega)).mp e38).symm
    refine V_ild3 dX6_does_120 ?_
    refine V_if_ne (tgt := 134) dX6_does_121 (by decide) (fun h121 => ?_) (fun h121 => ?_)
    · refine V_iconst (v := 0) dX6_does_134 (by decide) ?_
      exact V_zret rfl dX6_does_135 (Or.inl rfl) (by decide) (by decide) (by
  refine dNo hq ?_
  rw [rCmdB_2 c1, decide_eq_true_eq]
  first
  | (guard_hyp h121 : ¬ nI (k / 1000 % 10) = 0; exact fun q => h121 (z2.mpr q.1))
  | (guard_hyp h126 : ¬ nI (k / 100 % 10) = 0; exact fun q => h126 (z3.mpr q.2.1))
  | (guard_hyp h131 : nI (k % 100) = 0; exact fun q => q.2.2 (z4.mp h131)))
    · refine V_ild4 dX6_does_124 ?_
      refine V_if_ne (tgt := 134) dX6_does_126 (by decide) (fun h126 => ?_) (fun h126 => ?_)
      · refine V_iconst (v := 0) dX6_does_134 (by decide) ?_
        exact V_zret rfl dX6_does_135 (Or.inl rfl) (by decide) (by decide) (by
  refine dNo hq ?_
  rw [rCmdB_2 c1, decide_eq_true_eq]
  first
  | (guard_hyp h121 : ¬ nI (k / 1000 % 10) = 0; exact fun q => h121 (z2.mpr q.1))
  | (guard_hyp h126 : ¬ nI (k / 100 % 10) = 0; exact fun q => h126 (z3.mpr q.2.1))
  | (guard_hyp h131 : nI (k % 100) = 0; exact fun q => q.2.2 (z4.mp h131)))
      · refine V_ild5 dX6_does_129 ?_
        refine V_if_ne (tgt := 136) dX6_does_131 (by decide) (fun h131 => ?_) (fun h131 => ?_)
        · have t0 : k % 100 ≠ 0 := fun q => h131 (z4.mpr q)
          refine V_ald0 dX6_does_136 ?_
          refine V_getR fd_X6_19 dX6_does_137 (by assumption) (by assumption) rfl ?_
          refine V_ild5 dX6_does_140 ?_
          refine V_cs2U lk_X6_72 cc_X6_goTicks dX6_does_142 (c_X6_goTicks h4 _) ft_X6_does_X6_goTicks rfl rfl (Nat.le_of_ble_eq_true rfl) ?_
          refine V_iconst (v := 1) dX6_does_145 (by decide) ?_
          exact V_zret rfl dX6_does_146 (Or.inr rfl) (by decide) (by decide) ⟨by rw [rCmdB_2 c1, bIt (decide_eq_true ⟨z2.mp h121, z3.mp h126, t0⟩)], by rw [hq, rCmdR_2 c1 (z2.mp h121) (z3.mp h126), if_pos t0]⟩
        · refine V_iconst (v := 0) dX6_does_134 (by decide) ?_
          exact V_zret rfl dX6_does_135 (Or.inl rfl) (by decide) (by decide) (by
  refine dNo hq ?_
  rw [rCmdB_2 c1, decide_eq_true_eq]
  first
  | (guard_hyp h121 : ¬ nI (k / 1000 % 10) = 0; exact fun q => h121 (z2.mpr q.1))
  | (guard_hyp h126 : ¬ nI (k / 100 % 10) = 0; exact fun q => h126 (z3.mpr q.2.1))
  | (guard_hyp h131 : nI (k % 100) = 0; exact fun q => q.2.2 (z4.mp h131)))
  by_cases s38_3 : y38 = 3
  · subst s38_3
    refine V_tableIn (tgt := 147) dX6_does_38 (by decide) (by decide) (off := 109) (by decide) (by decide) ?_
    have c1 : k / 10000 = 3 := ((nI_eq (a := 3) (by decide) (by omega)).mp e38).symm
    refine V_ild3 dX6_does_147 ?_
    refine V_ild6 dX6_does_148 ?_
    refine V_cs2R lk_X6_189 cc_X6_isSetting dX6_does_150 (c_X6_isSetting _ _) ft_X6_does_X6_isSetting rfl rfl (Nat.le_of_ble_eq_true rfl) ?_
    refine V_if_ne (tgt := 158) dX6_does_153 (by decide) (fun h153 => ?_) (fun h153 => ?_)
    · rw [bI0, Decidable.not_not] at h153
      refine V_ald0 dX6_does_158 ?_
      refine V_getR fd_X6_19 dX6_does_159 (by assumption) (by assumption) rfl ?_
      refine V_iconst (v := 1) dX6_does_162 (by decide) ?_
      refine V_ild3 dX6_does_163 ?_
      refine V_iadd dX6_does_164 ?_
      refine V_ild6 dX6_does_165 ?_
      refine V_iast (j := 1 + k / 1000 % 10) dX6_does_167 (by assumption) (nI_add 1 _) (by omega) ?_
      refine V_iconst (v := 1) dX6_does_168 (by decide) ?_
      exact V_zret rfl dX6_does_169 (Or.inr rfl) (by decide) (by decide) ⟨by rw [rCmdB_3 c1, bIt (decide_eq_true h153)], by rw [xup_r, hq, rCmdR_3 c1, if_pos h153]⟩
    · rw [bI0] at h153
      refine V_iconst (v := 0) dX6_does_156 (by decide) ?_
      exact V_zret rfl dX6_does_157 (Or.inl rfl) (by decide) (by decide) (dNo hq (by rw [rCmdB_3 c1, decide_eq_true_eq]; exact h153))
  by_cases s38_4 : y38 = 4
  · subst s38_4
    refine V_tableIn (tgt := 170) dX6_does_38 (by decide) (by decide) (off := 132) (by decide) (by decide) ?_
    have c1 : k / 10000 = 4 := ((nI_eq (a := 4) (by decide) (by omega)).mp e38).symm
    refine V_ild3 dX6_does_170 ?_
    refine V_iconst (v := 4) dX6_does_171 (by decide) ?_
    refine V_icmp_ge (tgt := 198) dX6_does_172 (by decide) (fun h172 => ?_) (fun h172 => ?_)
    · refine V_iconst (v := 0) dX6_does_198 (by decide) ?_
      exact V_zret rfl dX6_does_199 (Or.inl rfl) (by decide) (by decide) (by
  first
  | (guard_hyp h172 : ¬ nI (k / 1000 % 10) < 4; exact dNo hq (by rw [rCmdB_4 c1, decide_eq_true_eq]; exact fun q => h172 (y4.mpr (by omega))))
  | (guard_hyp h177 : ¬ nI (k / 100 % 10) = 0; exact dNo hq (by rw [rCmdB_4 c1, decide_eq_true_eq]; exact fun q => h177 (z3.mpr q.1)))
  | (rw [hq] at h191
     first
     | (guard_hyp h191 : Q (6 + k / 1000 % 10) < nI (k % 100); exact dNo hq (by rw [rCmdB_4 c1, decide_eq_true_eq]; exact fun q => q.2.2 h191))
     | exact dYes hq (by rw [rCmdB_4 c1, decide_eq_true_eq]; exact ⟨z3.mp h177, by have := y4.mp h172; omega, h191⟩) (by omega)))
    · refine V_ild4 dX6_does_175 ?_
      refine V_if_ne (tgt := 198) dX6_does_177 (by decide) (fun h177 => ?_) (fun h177 => ?_)
      · refine V_iconst (v := 0) dX6_does_198 (by decide) ?_
        exact V_zret rfl dX6_does_199 (Or.inl rfl) (by decide) (by decide) (by
  first
  | (guard_hyp h172 : ¬ nI (k / 1000 % 10) < 4; exact dNo hq (by rw [rCmdB_4 c1, decide_eq_true_eq]; exact fun q => h172 (y4.mpr (by omega))))
  | (guard_hyp h177 : ¬ nI (k / 100 % 10) = 0; exact dNo hq (by rw [rCmdB_4 c1, decide_eq_true_eq]; exact fun q => h177 (z3.mpr q.1)))
  | (rw [hq] at h191
     first
     | (guard_hyp h191 : Q (6 + k / 1000 % 10) < nI (k % 100); exact dNo hq (by rw [rCmdB_4 c1, decide_eq_true_eq]; exact fun q => q.2.2 h191))
     | exact dYes hq (by rw [rCmdB_4 c1, decide_eq_true_eq]; exact ⟨z3.mp h177, by have := y4.mp h172; omega, h191⟩) (by omega)))
      · refine V_ald0 dX6_does_180 ?_
        refine V_getR fd_X6_19 dX6_does_181 (by assumption) (by assumption) rfl ?_
        refine V_bipush (v := 6) dX6_does_184 (by decide) ?_
        refine V_ild3 dX6_does_186 ?_
        refine V_iadd dX6_does_187 ?_
        refine V_iald (j := 6 + k / 1000 % 10) dX6_does_188 (by assumption) (nI_add 6 _) (by omega) ?_
        refine V_ild5 dX6_does_189 ?_
        refine V_icmp_lt (tgt := 198) dX6_does_191 (by decide) (fun h191 => ?_) (fun h191 => ?_)
        · refine V_iconst (v := 0) dX6_does_198 (by decide) ?_
          exact V_zret rfl dX6_does_199 (Or.inl rfl) (by decide) (by decide) (by
  first
  | (guard_hyp h172 : ¬ nI (k / 1000 % 10) < 4; exact dNo hq (by rw [rCmdB_4 c1, decide_eq_true_eq]; exact fun q => h172 (y4.mpr (by omega))))
  | (guard_hyp h177 : ¬ nI (k / 100 % 10) = 0; exact dNo hq (by rw [rCmdB_4 c1, decide_eq_true_eq]; exact fun q => h177 (z3.mpr q.1)))
  | (rw [hq] at h191
     first
     | (guard_hyp h191 : Q (6 + k / 1000 % 10) < nI (k % 100); exact dNo hq (by rw [rCmdB_4 c1, decide_eq_true_eq]; exact fun q => q.2.2 h191))
     | exact dYes hq (by rw [rCmdB_4 c1, decide_eq_true_eq]; exact ⟨z3.mp h177, by have := y4.mp h172; omega, h191⟩) (by omega)))
        · refine V_iconst (v := 1) dX6_does_194 (by decide) ?_
          refine V_goto (tgt := 199) dX6_does_195 (by decide) ?_
          exact V_zret rfl dX6_does_199 (Or.inr rfl) (by decide) (by decide) (by
  first
  | (guard_hyp h172 : ¬ nI (k / 1000 % 10) < 4; exact dNo hq (by rw [rCmdB_4 c1, decide_eq_true_eq]; exact fun q => h172 (y4.mpr (by omega))))
  | (guard_hyp h177 : ¬ nI (k / 100 % 10) = 0; exact dNo hq (by rw [rCmdB_4 c1, decide_eq_true_eq]; exact fun q => h177 (z3.mpr q.1)))
  | (rw [hq] at h191
     first
     | (guard_hyp h191 : Q (6 + k / 1000 % 10) < nI (k % 100); exact dNo hq (by rw [rCmdB_4 c1, decide_eq_true_eq]; exact fun q => q.2.2 h191))
     | exact dYes hq (by rw [rCmdB_4 c1, decide_eq_true_eq]; exact ⟨z3.mp h177, by have := y4.mp h172; omega, h191⟩) (by omega)))
  by_cases s38_5 : y38 = 5
  · subst s38_5
    refine V_tableIn (tgt := 200) dX6_does_38 (by decide) (by decide) (off := 162) (by decide) (by decide) ?_
    have c1 : k / 10000 = 5 := ((nI_eq (a := 5) (by decide) (by omega)).mp e38).symm
    refine V_ild3 dX6_does_200 ?_
    refine V_cs1R lk_X6_143 cc_X6_isBin dX6_does_201 (c_X6_isBin _) ft_X6_does_X6_isBin rfl rfl (Nat.le_of_ble_eq_true rfl) ?_
    refine V_if_eq (tgt := 227) dX6_does_204 (by decide) (fun h204 => ?_) (fun h204 => ?_)
    · refine V_iconst (v := 0) dX6_does_227 (by decide) ?_
      exact V_zret rfl dX6_does_228 (Or.inl rfl) (by decide) (by decide) (by
  first
  | (guard_hyp h204 : k / 1000 % 10 ≤ 7
     rw [hq] at h220
     first
     | (guard_hyp h220 : Q (23 + 3 * (k / 1000 % 10)) < nI (k % 1000); exact dNo hq (by rw [rCmdB_5 c1, decide_eq_true_eq]; exact fun q => q.2 h220))
     | exact dYes hq (by rw [rCmdB_5 c1, decide_eq_true_eq]; exact ⟨h204, h220⟩) (by omega))
  | exact dNo hq (by rw [rCmdB_5 c1, decide_eq_true_eq]; rw [bI0, d7] at h204; exact fun q => h204 q.1))
    · rw [bI0, Decidable.not_not, d7] at h204
      refine V_ald0 dX6_does_207 ?_
      refine V_getR fd_X6_19 dX6_does_208 (by assumption) (by assumption) rfl ?_
      refine V_bipush (v := 23) dX6_does_211 (by decide) ?_
      refine V_iconst (v := 3) dX6_does_213 (by decide) ?_
      refine V_ild3 dX6_does_214 ?_
      refine V_imul dX6_does_215 ?_
      refine V_iadd dX6_does_216 ?_
      refine V_iald (j := 23 + 3 * (k / 1000 % 10)) dX6_does_217 (by assumption) i23 (by omega) ?_
      refine V_ild6 dX6_does_218 ?_
      refine V_icmp_lt (tgt := 227) dX6_does_220 (by decide) (fun h220 => ?_) (fun h220 => ?_)
      · refine V_iconst (v := 0) dX6_does_227 (by decide) ?_
        exact V_zret rfl dX6_does_228 (Or.inl rfl) (by decide) (by decide) (by
  first
  | (guard_hyp h204 : k / 1000 % 10 ≤ 7
     rw [hq] at h220
     first
     | (guard_hyp h220 : Q (23 + 3 * (k / 1000 % 10)) < nI (k % 1000); exact dNo hq (by rw [rCmdB_5 c1, decide_eq_true_eq]; exact fun q => q.2 h220))
     | exact dYes hq (by rw [rCmdB_5 c1, decide_eq_true_eq]; exact ⟨h204, h220⟩) (by omega))
  | exact dNo hq (by rw [rCmdB_5 c1, decide_eq_true_eq]; rw [bI0, d7] at h204; exact fun q => h204 q.1))
      · refine V_iconst (v := 1) dX6_does_223 (by decide) ?_
        refine V_goto (tgt := 228) dX6_does_224 (by decide) ?_
        exact V_zret rfl dX6_does_228 (Or.inr rfl) (by decide) (by decide) (by
  first
  | (guard_hyp h204 : k / 1000 % 10 ≤ 7
     rw [hq] at h220
     first
     | (guard_hyp h220 : Q (23 + 3 * (k / 1000 % 10)) < nI (k % 1000); exact dNo hq (by rw [rCmdB_5 c1, decide_eq_true_eq]; exact fun q => q.2 h220))
     | exact dYes hq (by rw [rCmdB_5 c1, decide_eq_true_eq]; exact ⟨h204, h220⟩) (by omega))
  | exact dNo hq (by rw [rCmdB_5 c1, decide_eq_true_eq]; rw [bI0, d7] at h204; exact fun q => h204 q.1))
  by_cases s38_6 : y38 = 6
  · subst s38_6
    refine V_tableIn (tgt := 229) dX6_does_38 (by decide) (by decide) (off := 191) (by decide) (by decide) ?_
    have c1 : k / 10000 = 6 := ((nI_eq (a := 6) (by decide) (by omega)).mp e38).symm
    refine V_ald0 dX6_does_229 ?_
    refine V_getR fd_X6_19 dX6_does_230 (by assumption) (by assumption) rfl ?_
    refine V_cs1R lk_X6_68 cc_X6_level dX6_does_233 (c_X6_level h4 (by rw [hq]; exact hw.r3)) ft_X6_does_X6_level rfl rfl (Nat.le_of_ble_eq_true rfl) ?_
    refine V_ild1 dX6_does_236 ?_
    refine V_sipush (v := 10000) dX6_does_237 (by decide) ?_
    refine V_irem dX6_does_240 (by decide) ?_
    rw [e6]
    refine V_icmp_lt (tgt := 248) dX6_does_241 (by decide) (fun h241 => ?_) (fun h241 => ?_)
    · refine V_iconst (v := 0) dX6_does_248 (by decide) ?_
      exact V_zret rfl dX6_does_249 (Or.inl rfl) (by decide) (by decide) (by
  rw [hq] at h241
  first
  | (guard_hyp h241 : rLev Q (Q 0) < nI (k % 10000); exact dNo hq (by rw [rCmdB_6 c1, decide_eq_true_eq]; exact fun q => q h241))
  | exact dYes hq (by rw [rCmdB_6 c1, decide_eq_true_eq]; exact h241) (by omega))
    · refine V_iconst (v := 1) dX6_does_244 (by decide) ?_
      refine V_goto (tgt := 249) dX6_does_245 (by decide) ?_
      exact V_zret rfl dX6_does_249 (Or.inr rfl) (by decide) (by decide) (by
  rw [hq] at h241
  first
  | (guard_hyp h241 : rLev Q (Q 0) < nI (k % 10000); exact dNo hq (by rw [rCmdB_6 c1, decide_eq_true_eq]; exact fun q => q h241))
  | exact dYes hq (by rw [rCmdB_6 c1, decide_eq_true_eq]; exact h241) (by omega))
  by_cases s38_7 : y38 = 7
  · subst s38_7
    refine V_tableIn (tgt := 250) dX6_does_38 (by decide) (by decide) (off := 212) (by decide) (by decide) ?_
    have c1 : k / 10000 = 7 := ((nI_eq (a := 7) (by decide) (by omega)).mp e38).symm
    have b7 := rCmdB_7 (Q := Q) c1
    rw [el] at b7
    refine V_ild3 dX6_does_250 ?_
    refine V_if_ne (tgt := 296) dX6_does_251 (by decide) (fun h251 => ?_) (fun h251 => ?_)
    · refine V_iconst (v := 0) dX6_does_296 (by decide) ?_
      exact V_zret rfl dX6_does_297 (Or.inl rfl) (by decide) (by decide) (by
  first
  | (guard_hyp h251 : ¬ nI (k / 1000 % 10) = 0; exact dNo hq (by rw [b7, decide_eq_true_eq]; exact fun q => h251 (z2.mpr (by omega))))
  | (guard_hyp h257 : ¬ nI (k % 1000) < 4; exact dNo hq (by rw [b7, decide_eq_true_eq]; exact fun q => h257 (y5.mpr (by omega))))
  | (guard_hyp h267 : 0 < xLf Q
     have a0 := z2.mp h251
     have ea : aFate Q (xLf Q) 0 = Q (48 + (xLf Q - 1)) := by unfold aFate; rw [if_pos h267]; rfl
     have em : k % 10000 = k % 1000 := by omega
     have k3 := y5.mp h257
     rw [hq] at h289
     first
     | (guard_hyp h289 : Q (48 + (xLf Q - 1)) = nI (k % 1000); exact dYes hq (by rw [b7, decide_eq_true_eq, ea, em]; exact ⟨by omega, h289⟩) (by omega))
     | exact dNo hq (by rw [b7, decide_eq_true_eq, ea, em]; exact fun q => h289 q.2))
  | (rw [hq, e47, lp] at h267
     exact dNo hq (by
       rw [b7, decide_eq_true_eq]
       rintro ⟨q1, q2⟩
       unfold aFate at q2
       rw [if_neg h267] at q2
       exact nI_m9 (by omega) q2.symm)))
    · refine V_ild6 dX6_does_254 ?_
      refine V_iconst (v := 4) dX6_does_256 (by decide) ?_
      refine V_icmp_ge (tgt := 296) dX6_does_257 (by decide) (fun h257 => ?_) (fun h257 => ?_)
      · refine V_iconst (v := 0) dX6_does_296 (by decide) ?_
        exact V_zret rfl dX6_does_297 (Or.inl rfl) (by decide) (by decide) (by
  first
  | (guard_hyp h251 : ¬ nI (k / 1000 % 10) = 0; exact dNo hq (by rw [b7, decide_eq_true_eq]; exact fun q => h251 (z2.mpr (by omega))))
  | (guard_hyp h257 : ¬ nI (k % 1000) < 4; exact dNo hq (by rw [b7, decide_eq_true_eq]; exact fun q => h257 (y5.mpr (by omega))))
  | (guard_hyp h267 : 0 < xLf Q
     have a0 := z2.mp h251
     have ea : aFate Q (xLf Q) 0 = Q (48 + (xLf Q - 1)) := by unfold aFate; rw [if_pos h267]; rfl
     have em : k % 10000 = k % 1000 := by omega
     have k3 := y5.mp h257
     rw [hq] at h289
     first
     | (guard_hyp h289 : Q (48 + (xLf Q - 1)) = nI (k % 1000); exact dYes hq (by rw [b7, decide_eq_true_eq, ea, em]; exact ⟨by omega, h289⟩) (by omega))
     | exact dNo hq (by rw [b7, decide_eq_true_eq, ea, em]; exact fun q => h289 q.2))
  | (rw [hq, e47, lp] at h267
     exact dNo hq (by
       rw [b7, decide_eq_true_eq]
       rintro ⟨q1, q2⟩
       unfold aFate at q2
       rw [if_neg h267] at q2
       exact nI_m9 (by omega) q2.symm)))
      · refine V_ald0 dX6_does_260 ?_
        refine V_getR fd_X6_19 dX6_does_261 (by assumption) (by assumption) rfl ?_
        refine V_bipush (v := 47) dX6_does_264 (by decide) ?_
        refine V_iald (j := 47) dX6_does_266 (by assumption) (by decide) (by decide) ?_
        refine V_if_le (tgt := 296) dX6_does_267 (by decide) (fun h267 => ?_) (fun h267 => ?_)
        · refine V_iconst (v := 0) dX6_does_296 (by decide) ?_
          exact V_zret rfl dX6_does_297 (Or.inl rfl) (by decide) (by decide) (by
  first
  | (guard_hyp h251 : ¬ nI (k / 1000 % 10) = 0; exact dNo hq (by rw [b7, decide_eq_true_eq]; exact fun q => h251 (z2.mpr (by omega))))
  | (guard_hyp h257 : ¬ nI (k % 1000) < 4; exact dNo hq (by rw [b7, decide_eq_true_eq]; exact fun q => h257 (y5.mpr (by omega))))
  | (guard_hyp h267 : 0 < xLf Q
     have a0 := z2.mp h251
     have ea : aFate Q (xLf Q) 0 = Q (48 + (xLf Q - 1)) := by unfold aFate; rw [if_pos h267]; rfl
     have em : k % 10000 = k % 1000 := by omega
     have k3 := y5.mp h257
     rw [hq] at h289
     first
     | (guard_hyp h289 : Q (48 + (xLf Q - 1)) = nI (k % 1000); exact dYes hq (by rw [b7, decide_eq_true_eq, ea, em]; exact ⟨by omega, h289⟩) (by omega))
     | exact dNo hq (by rw [b7, decide_eq_true_eq, ea, em]; exact fun q => h289 q.2))
  | (rw [hq, e47, lp] at h267
     exact dNo hq (by
       rw [b7, decide_eq_true_eq]
       rintro ⟨q1, q2⟩
       unfold aFate at q2
       rw [if_neg h267] at q2
       exact nI_m9 (by omega) q2.symm)))
        · rw [hq, e47, lp] at h267
          refine V_ald0 dX6_does_270 ?_
          refine V_getR fd_X6_19 dX6_does_271 (by assumption) (by assumption) rfl ?_
          refine V_bipush (v := 48) dX6_does_274 (by decide) ?_
          refine V_ald0 dX6_does_276 ?_
          refine V_getR fd_X6_19 dX6_does_277 (by assumption) (by assumption) rfl ?_
          refine V_bipush (v := 47) dX6_does_280 (by decide) ?_
          refine V_iald (j := 47) dX6_does_282 (by assumption) (by decide) (by decide) ?_
          refine V_iadd dX6_does_283 ?_
          refine V_iconst (v := 1) dX6_does_284 (by decide) ?_
          refine V_isub dX6_does_285 ?_
          refine V_iald (j := 48 + (xLf Q - 1)) dX6_does_286 (by assumption) (by rw [hq, e47, show (48 : Int32) + nI (xLf Q) = nI (48 + xLf Q) from nI_add 48 _, show nI (48 + xLf Q) - 1 = nI (48 + xLf Q - 1) from pkSub (b := 1) (by omega)]; congr 1; omega) (by omega) ?_
          refine V_ild6 dX6_does_287 ?_
          refine V_icmp_ne (tgt := 296) dX6_does_289 (by decide) (fun h289 => ?_) (fun h289 => ?_)
          · refine V_iconst (v := 0) dX6_does_296 (by decide) ?_
            exact V_zret rfl dX6_does_297 (Or.inl rfl) (by decide) (by decide) (by
  first
  | (guard_hyp h251 : ¬ nI (k / 1000 % 10) = 0; exact dNo hq (by rw [b7, decide_eq_true_eq]; exact fun q => h251 (z2.mpr (by omega))))
  | (guard_hyp h257 : ¬ nI (k % 1000) < 4; exact dNo hq (by rw [b7, decide_eq_true_eq]; exact fun q => h257 (y5.mpr (by omega))))
  | (guard_hyp h267 : 0 < xLf Q
     have a0 := z2.mp h251
     have ea : aFate Q (xLf Q) 0 = Q (48 + (xLf Q - 1)) := by unfold aFate; rw [if_pos h267]; rfl
     have em : k % 10000 = k % 1000 := by omega
     have k3 := y5.mp h257
     rw [hq] at h289
     first
     | (guard_hyp h289 : Q (48 + (xLf Q - 1)) = nI (k % 1000); exact dYes hq (by rw [b7, decide_eq_true_eq, ea, em]; exact ⟨by omega, h289⟩) (by omega))
     | exact dNo hq (by rw [b7, decide_eq_true_eq, ea, em]; exact fun q => h289 q.2))
  | (rw [hq, e47, lp] at h267
     exact dNo hq (by
       rw [b7, decide_eq_true_eq]
       rintro ⟨q1, q2⟩
       unfold aFate at q2
       rw [if_neg h267] at q2
       exact nI_m9 (by omega) q2.symm)))
          · refine V_iconst (v := 1) dX6_does_292 (by decide) ?_
            refine V_goto (tgt := 297) dX6_does_293 (by decide) ?_
            exact V_zret rfl dX6_does_297 (Or.inr rfl) (by decide) (by decide) (by
  first
  | (guard_hyp h251 : ¬ nI (k / 1000 % 10) = 0; exact dNo hq (by rw [b7, decide_eq_true_eq]; exact fun q => h251 (z2.mpr (by omega))))
  | (guard_hyp h257 : ¬ nI (k % 1000) < 4; exact dNo hq (by rw [b7, decide_eq_true_eq]; exact fun q => h257 (y5.mpr (by omega))))
  | (guard_hyp h267 : 0 < xLf Q
     have a0 := z2.mp h251
     have ea : aFate Q (xLf Q) 0 = Q (48 + (xLf Q - 1)) := by unfold aFate; rw [if_pos h267]; rfl
     have em : k % 10000 = k % 1000 := by omega
     have k3 := y5.mp h257
     rw [hq] at h289
     first
     | (guard_hyp h289 : Q (48 + (xLf Q - 1)) = nI (k % 1000); exact dYes hq (by rw [b7, decide_eq_true_eq, ea, em]; exact ⟨by omega, h289⟩) (by omega))
     | exact dNo hq (by rw [b7, decide_eq_true_eq, ea, em]; exact fun q => h289 q.2))
  | (rw [hq, e47, lp] at h267
     exact dNo hq (by
       rw [b7, decide_eq_true_eq]
       rintro ⟨q1, q2⟩
       unfold aFate at q2
       rw [if_neg h267] at q2
       exact nI_m9 (by omega) q2.symm)))
  by_cases s38_8 : y38 = 8
  · subst s38_8
    refine V_tableIn (tgt := 298) dX6_does_38 (by decide) (by decide) (off := 260) (by decide) (by decide) ?_
    have c1 : k / 10000 = 8 := ((nI_eq (a := 8) (by decide) (by omega)).mp e38).symm
    have v13 : ∃ b, b ≤ 1 ∧ Q 13 = nI b := by
      rcases hw.2.2.2.2.2.2.1 with z | z
      · exact ⟨0, by omega, z⟩
      · exact ⟨1, by omega, z⟩
    obtain ⟨b, b1, b2⟩ := v13
    have ev : ∀ j, j < 100000 → (nI j = Q 13 ↔ j = b) := fun j hj => by rw [b2]; exact nI_eq (by omega) (by omega)
    refine V_ild3 dX6_does_298 ?_
    refine V_if_ne (tgt := 324) dX6_does_299 (by decide) (fun h299 => ?_) (fun h299 => ?_)
    · refine V_iconst (v := 0) dX6_does_324 (by decide) ?_
      exact V_zret rfl dX6_does_325 (Or.inl rfl) (by decide) (by decide) (by
  first
  | (guard_hyp h299 : ¬ nI (k / 1000 % 10) = 0; exact dNo hq (by rw [rCmdB_8 c1, decide_eq_true_eq, ev _ (by omega)]; exact fun q => h299 (z2.mpr (by omega))))
  | (guard_hyp h305 : ¬ nI (k % 1000) < 2; exact dNo hq (by rw [rCmdB_8 c1, decide_eq_true_eq, ev _ (by omega)]; exact fun q => h305 (y2.mpr (by omega))))
  | (have a0 := z2.mp h299
     have em : k % 10000 = k % 1000 := by omega
     rw [hq] at h317
     first
     | (guard_hyp h317 : Q 13 = nI (k % 1000); exact dYes hq (by rw [rCmdB_8 c1, decide_eq_true_eq, em]; exact h317.symm) (by omega))
     | exact dNo hq (by rw [rCmdB_8 c1, decide_eq_true_eq, em]; exact fun q => h317 q.symm)))
    · refine V_ild6 dX6_does_302 ?_
      refine V_iconst (v := 2) dX6_does_304 (by decide) ?_
      refine V_icmp_ge (tgt := 324) dX6_does_305 (by decide) (fun h305 => ?_) (fun h305 => ?_)
      · refine V_iconst (v := 0) dX6_does_324 (by decide) ?_
        exact V_zret rfl dX6_does_325 (Or.inl rfl) (by decide) (by decide) (by
  first
  | (guard_hyp h299 : ¬ nI (k / 1000 % 10) = 0; exact dNo hq (by rw [rCmdB_8 c1, decide_eq_true_eq, ev _ (by omega)]; exact fun q => h299 (z2.mpr (by omega))))
  | (guard_hyp h305 : ¬ nI (k % 1000) < 2; exact dNo hq (by rw [rCmdB_8 c1, decide_eq_true_eq, ev _ (by omega)]; exact fun q => h305 (y2.mpr (by omega))))
  | (have a0 := z2.mp h299
     have em : k % 10000 = k % 1000 := by omega
     rw [hq] at h317
     first
     | (guard_hyp h317 : Q 13 = nI (k % 1000); exact dYes hq (by rw [rCmdB_8 c1, decide_eq_true_eq, em]; exact h317.symm) (by omega))
     | exact dNo hq (by rw [rCmdB_8 c1, decide_eq_true_eq, em]; exact fun q => h317 q.symm)))
      · refine V_ald0 dX6_does_308 ?_
        refine V_getR fd_X6_19 dX6_does_309 (by assumption) (by assumption) rfl ?_
        refine V_bipush (v := 13) dX6_does_312 (by decide) ?_
        refine V_iald (j := 13) dX6_does_314 (by assumption) (by decide) (by decide) ?_
        refine V_ild6 dX6_does_315 ?_
        refine V_icmp_ne (tgt := 324) dX6_does_317 (by decide) (fun h317 => ?_) (fun h317 => ?_)
        · refine V_iconst (v := 0) dX6_does_324 (by decide) ?_
          exact V_zret rfl dX6_does_325 (Or.inl rfl) (by decide) (by decide) (by
  first
  | (guard_hyp h299 : ¬ nI (k / 1000 % 10) = 0; exact dNo hq (by rw [rCmdB_8 c1, decide_eq_true_eq, ev _ (by omega)]; exact fun q => h299 (z2.mpr (by omega))))
  | (guard_hyp h305 : ¬ nI (k % 1000) < 2; exact dNo hq (by rw [rCmdB_8 c1, decide_eq_true_eq, ev _ (by omega)]; exact fun q => h305 (y2.mpr (by omega))))
  | (have a0 := z2.mp h299
     have em : k % 10000 = k % 1000 := by omega
     rw [hq] at h317
     first
     | (guard_hyp h317 : Q 13 = nI (k % 1000); exact dYes hq (by rw [rCmdB_8 c1, decide_eq_true_eq, em]; exact h317.symm) (by omega))
     | exact dNo hq (by rw [rCmdB_8 c1, decide_eq_true_eq, em]; exact fun q => h317 q.symm)))
        · refine V_iconst (v := 1) dX6_does_320 (by decide) ?_
          refine V_goto (tgt := 325) dX6_does_321 (by decide) ?_
          exact V_zret rfl dX6_does_325 (Or.inr rfl) (by decide) (by decide) (by
  first
  | (guard_hyp h299 : ¬ nI (k / 1000 % 10) = 0; exact dNo hq (by rw [rCmdB_8 c1, decide_eq_true_eq, ev _ (by omega)]; exact fun q => h299 (z2.mpr (by omega))))
  | (guard_hyp h305 : ¬ nI (k % 1000) < 2; exact dNo hq (by rw [rCmdB_8 c1, decide_eq_true_eq, ev _ (by omega)]; exact fun q => h305 (y2.mpr (by omega))))
  | (have a0 := z2.mp h299
     have em : k % 10000 = k % 1000 := by omega
     rw [hq] at h317
     first
     | (guard_hyp h317 : Q 13 = nI (k % 1000); exact dYes hq (by rw [rCmdB_8 c1, decide_eq_true_eq, em]; exact h317.symm) (by omega))
     | exact dNo hq (by rw [rCmdB_8 c1, decide_eq_true_eq, em]; exact fun q => h317 q.symm)))
  refine V_tableOut (tgt := 326) dX6_does_38 (by have q1 := xne s38_1; have q2 := xne s38_2; have q3 := xne s38_3; have q4 := xne s38_4; have q5 := xne s38_5; have q6 := xne s38_6; have q7 := xne s38_7; have q8 := xne s38_8; simp only [xlit_1, xlit_2, xlit_3, xlit_4, xlit_5, xlit_6, xlit_7, xlit_8] at q1 q2 q3 q4 q5 q6 q7 q8; omega) (by decide) ?_
  have c1 : ∀ v, 1 ≤ v → v ≤ 8 → k / 10000 ≠ v := by
    intro v v1 v2 e
    have e9 : y38 = nI v := by rw [e38, e]
    have : v = 1 ∨ v = 2 ∨ v = 3 ∨ v = 4 ∨ v = 5 ∨ v = 6 ∨ v = 7 ∨ v = 8 := by omega
    rcases this with rfl | rfl | rfl | rfl | rfl | rfl | rfl | rfl <;> contradiction
  refine V_iconst (v := 0) dX6_does_326 (by decide) ?_
  exact V_zret rfl dX6_does_327 (Or.inl rfl) (by decide) (by decide) (dNo hq (by rw [rCmdB_9 c1]; decide))
end C64

/-! ===== the law: calls that are refused ===== -/
section P79
variable {l : Launch} {n : Nat} {K : xKnd} {G : xRef} {M M' : xMem} {L L' : xLng} {o : Nat} {S : xSp} {R : xRow}
theorem OK.go (hO : OK l n K G M L o S) (c : CRel M' L' o S) : OK l n K G M' L' o S := ⟨hO.1, hO.2.1, c, hO.2.2.2⟩
theorem OK.row (hO : OK l n K G M L o S) : ∃ T B, WFr S.2.2.1 T B ∧ T ≤ 240000 ∧ B ≤ 400000000 := by
  obtain ⟨-, -, -, T, B, hw, t1, b1⟩ := hO
  exact ⟨T, B, hw.1, t1, b1⟩
theorem lBin_l {k : Nat} (hk : k < 8) : lBin R (nI k) 0 = (rLow R k).toInt64 := by
  unfold lBin
  have e : kdBin (nI k) 0 = 0 := by
    unfold kdBin
    rw [if_neg (fun q => q.elim (nI_pos (by omega)) (fun q => absurd ((nI_ltI (a := 7) (by decide) (by omega)).mp q) (by omega)))]
    simp
  rw [lC_0 e, nI_clamp (by omega)]
  unfold aBin
  rw [if_pos rfl]
theorem kdBor_low (hO : OK l n K G M L o S) : kdBor S.2.2.1 2 ((rLow S.2.2.1 1).toInt64.toInt32) = 3 := by
  obtain ⟨T, B, hw, -⟩ := hO.row
  obtain ⟨b, b1, b2, hb⟩ := hw.2.2.2.2.2.2.2.2.2.2.1 0 (by decide)
  have hb : S.2.2.1 16 = nI b := hb
  unfold kdBor
  rw [Int32.toInt32_toInt64, show rLow S.2.2.1 1 = S.2.2.1 16 by simp [rLow], if_neg (by decide), hb, if_neg (fun q => q.elim (fun q => nI_nlt (a := b) (b := 1) b1 (by omega) q) (fun q => nI_nlt (a := 5000) b2 (by decide) q)), if_neg]
  rintro ⟨q, -⟩
  rcases q with q | q
  · exact absurd q (by decide)
  · rw [show 14 + (2 : Int32).toNatClampNeg = 16 by decide, hb] at q
    exact absurd q (nI_nlt (Nat.le_refl _) (by omega))
theorem kdBor_up (hO : OK l n K G M L o S) : kdBor S.2.2.1 2 ((rLow S.2.2.1 3).toInt64.toInt32) = 3 := by
  obtain ⟨T, B, hw, -⟩ := hO.row
  obtain ⟨b, b1, b2, hb⟩ := hw.2.2.2.2.2.2.2.2.2.2.1 2 (by decide)
  have hb : S.2.2.1 18 = nI b := hb
  unfold kdBor
  rw [Int32.toInt32_toInt64, show rLow S.2.2.1 3 = S.2.2.1 18 by simp [rLow], if_neg (by decide), hb, if_neg (fun q => q.elim (fun q => nI_nlt (a := b) (b := 1) b1 (by omega) q) (fun q => nI_nlt (a := 5000) b2 (by decide) q)), if_neg]
  rintro ⟨-, q⟩
  rcases q with q | q
  · exact absurd q (by decide)
  · rw [show 16 + (2 : Int32).toNatClampNeg = 18 by decide, hb] at q
    exact absurd q (nI_nlt (Nat.le_refl _) (by omega))
theorem kdBor_3 {v : Int32} (h : kdBor S.2.2.1 2 v = 3) : ¬ kdBor S.2.2.1 2 v = 0 := by rw [h]; decide
end P79
section C79
variable {E : xEnv} {l : Launch} {n : Nat} {K : xKnd} {G : xRef} {M : xMem} {L : xLng} {o : Nat} {S : xSp}
set_option maxRecDepth 100000 in
set_option maxHeartbeats 4000000 in
theorem c_L_errors (hO : OK l n K G M L o S) : Con E l Y_L_errors [.ref o] (false, n, K, G, M, L) (xJV (.int 1) S o n K G M L) xF := by
  have f9 : Fr o M L M L := Fr.rfl'
  refine Con.mk 3 mp_L_errors rfl (ls := [some (.ref o), none, none, none]) rfl (Nat.le_of_ble_eq_true rfl) ?_
  refine V_ald0 dL_errors_0 ?_
  refine V_cs1RA lk_L_122 cc_L_now dL_errors_1 (c_L_now hO) (xFit.mk (by decide) (by decide) (by first | decide | (show _ ≤ 460; dsimp only; omega)) (by first | decide | (show _ ≤ 2760; dsimp only; omega))) (Nat.le_of_ble_eq_true rfl) ?_
  refine V_lst1 dL_errors_4 rfl (by decide) ?_
  refine V_ald0 dL_errors_5 ?_
  refine V_iconst (v := (-1)) dL_errors_6 (by decide) ?_
  refine V_ch2R (Y' := Y_L_about) ml_L_104 ch_L_about dL_errors_7 ((k_about hO _).val (lC_1 (by decide))) (by decide) (by decide) (by first | decide | (show _ ≤ 460; dsimp only; omega)) (by first | decide | (show _ ≤ 2760; dsimp only; omega)) (Nat.le_of_ble_eq_true rfl) ?_
  refine V_ldc2 dL_errors_10 mk_L_17 ?_
  refine V_zf_ne (tgt := 190) dL_errors_13 dL_errors_14 (by decide) (rfl) ?_
  refine V_ald0 dL_errors_17 ?_
  refine V_bipush (v := 12) dL_errors_18 (by decide) ?_
  refine V_ch2R (Y' := Y_L_about) ml_L_104 ch_L_about dL_errors_20 ((k_about hO _).val (lC_1 (by decide))) (by decide) (by decide) (by first | decide | (show _ ≤ 460; dsimp only; omega)) (by first | decide | (show _ ≤ 2760; dsimp only; omega)) (Nat.le_of_ble_eq_true rfl) ?_
  refine V_ldc2 dL_errors_23 mk_L_17 ?_
  refine V_zf_ne (tgt := 190) dL_errors_26 dL_errors_27 (by decide) (rfl) ?_
  refine V_ald0 dL_errors_30 ?_
  refine V_iconst (v := 5) dL_errors_31 (by decide) ?_
  refine V_ch2R (Y' := Y_L_setting) ml_L_109 ch_L_setting dL_errors_32 ((k_setting hO _).val (lC_1 (by decide))) (by decide) (by decide) (by first | decide | (show _ ≤ 460; dsimp only; omega)) (by first | decide | (show _ ≤ 2760; dsimp only; omega)) (Nat.le_of_ble_eq_true rfl) ?_
  refine V_ldc2 dL_errors_35 mk_L_17 ?_
  refine V_zf_ne (tgt := 190) dL_errors_38 dL_errors_39 (by decide) (rfl) ?_
  refine V_ald0 dL_errors_42 ?_
  refine V_bipush (v := 8) dL_errors_43 (by decide) ?_
  refine V_bipush (v := 9) dL_errors_45 (by decide) ?_
  refine V_ch3R (Y' := Y_L_bin) ml_L_111 ch_L_bin dL_errors_47 ((k_bin hO _ _).val (lC_1 (by decide))) (by decide) (by decide) (by first | decide | (show _ ≤ 460; dsimp only; omega)) (by first | decide | (show _ ≤ 2760; dsimp only; omega)) (Nat.le_of_ble_eq_true rfl) ?_
  refine V_ldc2 dL_errors_50 mk_L_39 ?_
  refine V_zf_ne (tgt := 190) dL_errors_53 dL_errors_54 (by decide) (rfl) ?_
  refine V_ald0 dL_errors_57 ?_
  refine V_iconst (v := (-1)) dL_errors_58 (by decide) ?_
  refine V_iconst (v := 0) dL_errors_59 (by decide) ?_
  refine V_ch3R (Y' := Y_L_bin) ml_L_111 ch_L_bin dL_errors_60 ((k_bin hO _ _).val (lC_1 (by decide))) (by decide) (by decide) (by first | decide | (show _ ≤ 460; dsimp only; omega)) (by first | decide | (show _ ≤ 2760; dsimp only; omega)) (Nat.le_of_ble_eq_true rfl) ?_
  refine V_ldc2 dL_errors_63 mk_L_39 ?_
  refine V_zf_ne (tgt := 190) dL_errors_66 dL_errors_67 (by decide) (rfl) ?_
  refine V_ald0 dL_errors_70 ?_
  refine V_iconst (v := 0) dL_errors_71 (by decide) ?_
  refine V_iconst (v := 5) dL_errors_72 (by decide) ?_
  refine V_ch3R (Y' := Y_L_bin) ml_L_111 ch_L_bin dL_errors_73 ((k_bin hO _ _).val (lC_2 (by decide))) (by decide) (by decide) (by first | decide | (show _ ≤ 460; dsimp only; omega)) (by first | decide | (show _ ≤ 2760; dsimp only; omega)) (Nat.le_of_ble_eq_true rfl) ?_
  refine V_ldc2 dL_errors_76 mk_L_17 ?_
  refine V_zf_ne (tgt := 190) dL_errors_79 dL_errors_80 (by decide) (rfl) ?_
  refine V_ald0 dL_errors_83 ?_
  refine V_iconst (v := 4) dL_errors_84 (by decide) ?_
  refine V_ch2R (Y' := Y_L_pulse) ml_L_114 ch_L_pulse dL_errors_85 ((k_pulse hO _).val (lC_1 (by decide))) (by decide) (by decide) (by first | decide | (show _ ≤ 460; dsimp only; omega)) (by first | decide | (show _ ≤ 2760; dsimp only; omega)) (Nat.le_of_ble_eq_true rfl) ?_
  refine V_ldc2 dL_errors_88 mk_L_17 ?_
  refine V_zf_ne (tgt := 190) dL_errors_91 dL_errors_92 (by decide) (rfl) ?_
  refine V_ald0 dL_errors_95 ?_
  refine V_iconst (v := (-1)) dL_errors_96 (by decide) ?_
  refine V_ch2R (Y' := Y_L_fate) ml_L_116 ch_L_fate dL_errors_97 ((k_fate hO _).val (lC_1 (by decide))) (by decide) (by decide) (by first | decide | (show _ ≤ 460; dsimp only; omega)) (by first | decide | (show _ ≤ 2760; dsimp only; omega)) (Nat.le_of_ble_eq_true rfl) ?_
  refine V_ldc2 dL_errors_100 mk_L_17 ?_
  refine V_zf_ne (tgt := 190) dL_errors_103 dL_errors_104 (by decide) (rfl) ?_
  refine V_ald0 dL_errors_107 ?_
  refine V_iconst (v := 4) dL_errors_108 (by decide) ?_
  refine V_ch2R (Y' := Y_L_longest) ml_L_126 ch_L_longest dL_errors_109 ((k_longest hO _).val (lC_1 (by decide))) (by decide) (by decide) (by first | decide | (show _ ≤ 460; dsimp only; omega)) (by first | decide | (show _ ≤ 2760; dsimp only; omega)) (Nat.le_of_ble_eq_true rfl) ?_
  refine V_ldc2 dL_errors_112 mk_L_17 ?_
  refine V_zf_ne (tgt := 190) dL_errors_115 dL_errors_116 (by decide) (rfl) ?_
  refine V_ald0 dL_errors_119 ?_
  refine V_iconst (v := 0) dL_errors_120 (by decide) ?_
  refine V_iconst (v := 0) dL_errors_121 (by decide) ?_
  refine V_ch3R (Y' := Y_L_pattern) ml_L_128 ch_L_pattern dL_errors_122 ((k_pattern hO _ _).val (lC_1 (by decide))) (by decide) (by decide) (by first | decide | (show _ ≤ 460; dsimp only; omega)) (by first | decide | (show _ ≤ 2760; dsimp only; omega)) (Nat.le_of_ble_eq_true rfl) ?_
  refine V_ldc2 dL_errors_125 mk_L_17 ?_
  refine V_zf_ne (tgt := 190) dL_errors_128 dL_errors_129 (by decide) (rfl) ?_
  refine V_ald0 dL_errors_132 ?_
  refine V_bipush (v := 9) dL_errors_133 (by decide) ?_
  refine V_iconst (v := 0) dL_errors_135 (by decide) ?_
  refine V_ch3R (Y' := Y_L_pattern) ml_L_128 ch_L_pattern dL_errors_136 ((k_pattern hO _ _).val (lC_1 (by decide))) (by decide) (by decide) (by first | decide | (show _ ≤ 460; dsimp only; omega)) (by first | decide | (show _ ≤ 2760; dsimp only; omega)) (Nat.le_of_ble_eq_true rfl) ?_
  refine V_ldc2 dL_errors_139 mk_L_17 ?_
  refine V_zf_ne (tgt := 190) dL_errors_142 dL_errors_143 (by decide) (rfl) ?_
  refine V_ald0 dL_errors_146 ?_
  refine V_iconst (v := 2) dL_errors_147 (by decide) ?_
  refine V_bipush (v := 100) dL_errors_148 (by decide) ?_
  refine V_ch3R (Y' := Y_L_pattern) ml_L_128 ch_L_pattern dL_errors_150 ((k_pattern hO _ _).val (lC_1 (by decide))) (by decide) (by decide) (by first | decide | (show _ ≤ 460; dsimp only; omega)) (by first | decide | (show _ ≤ 2760; dsimp only; omega)) (Nat.le_of_ble_eq_true rfl) ?_
  refine V_ldc2 dL_errors_153 mk_L_17 ?_
  refine V_zf_ne (tgt := 190) dL_errors_156 dL_errors_157 (by decide) (rfl) ?_
  refine V_ald0 dL_errors_160 ?_
  refine V_iconst (v := 3) dL_errors_161 (by decide) ?_
  refine V_bipush (v := 40) dL_errors_162 (by decide) ?_
  refine V_ch3R (Y' := Y_L_pattern) ml_L_128 ch_L_pattern dL_errors_164 ((k_pattern hO _ _).val (lC_1 (by decide))) (by decide) (by decide) (by first | decide | (show _ ≤ 460; dsimp only; omega)) (by first | decide | (show _ ≤ 2760; dsimp only; omega)) (Nat.le_of_ble_eq_true rfl) ?_
  refine V_ldc2 dL_errors_167 mk_L_17 ?_
  refine V_zf_ne (tgt := 190) dL_errors_170 dL_errors_171 (by decide) (rfl) ?_
  refine V_ald0 dL_errors_174 ?_
  refine V_iconst (v := (-1)) dL_errors_175 (by decide) ?_
  refine V_ch2R (Y' := Y_L_rain) ml_L_130 ch_L_rain dL_errors_176 ((k_rain hO _).val (lC_1 (by decide))) (by decide) (by decide) (by first | decide | (show _ ≤ 460; dsimp only; omega)) (by first | decide | (show _ ≤ 2760; dsimp only; omega)) (Nat.le_of_ble_eq_true rfl) ?_
  refine V_ldc2 dL_errors_179 mk_L_17 ?_
  refine V_zf_ne (tgt := 190) dL_errors_182 dL_errors_183 (by decide) (rfl) ?_
  refine V_iconst (v := 1) dL_errors_186 (by decide) ?_
  refine V_goto (tgt := 191) dL_errors_187 (by decide) ?_
  refine V_ist3 dL_errors_191 rfl (by decide) ?_
  refine V_ild3 dL_errors_192 ?_
  refine V_xf_eq (tgt := 389) dL_errors_193 (by decide) (by decide) ?_
  refine V_ald0 dL_errors_196 ?_
  refine V_bipush (v := 100) dL_errors_197 (by decide) ?_
  refine V_iconst (v := 1) dL_errors_199 (by decide) ?_
  refine V_ch3J (Y' := Y_L_drop) ml_L_132 ch_L_drop dL_errors_200 ((k_drop hO _ _).jval (lC_1 (by decide)) (if_neg (by decide))) (by decide) (by decide) (by first | decide | (show _ ≤ 460; dsimp only; omega)) (by first | decide | (show _ ≤ 2760; dsimp only; omega)) (Nat.le_of_ble_eq_true rfl) (fun M9 L9 c9 f8 => ?_)
  have hO := hO.go c9
  have f9 := f9.trans f8
  refine V_ldc2 dL_errors_203 mk_L_17 ?_
  refine V_zf_ne (tgt := 389) dL_errors_206 dL_errors_207 (by decide) (rfl) ?_
  refine V_ald0 dL_errors_210 ?_
  refine V_iconst (v := 0) dL_errors_211 (by decide) ?_
  refine V_iconst (v := 0) dL_errors_212 (by decide) ?_
  refine V_ch3J (Y' := Y_L_drop) ml_L_132 ch_L_drop dL_errors_213 ((k_drop hO _ _).jval (lC_1 (by decide)) (if_neg (by decide))) (by decide) (by decide) (by first | decide | (show _ ≤ 460; dsimp only; omega)) (by first | decide | (show _ ≤ 2760; dsimp only; omega)) (Nat.le_of_ble_eq_true rfl) (fun M9 L9 c9 f8 => ?_)
  have hO := hO.go c9
  have f9 := f9.trans f8
  refine V_ldc2 dL_errors_216 mk_L_17 ?_
  refine V_zf_ne (tgt := 389) dL_errors_219 dL_errors_220 (by decide) (rfl) ?_
  refine V_ald0 dL_errors_223 ?_
  refine V_iconst (v := 0) dL_errors_224 (by decide) ?_
  refine V_ch2J (Y' := Y_L_pass) ml_L_134 ch_L_pass dL_errors_225 ((k_pass hO _).jval (lC_1 (by decide)) (if_neg (by decide))) (by decide) (by decide) (by first | decide | (show _ ≤ 460; dsimp only; omega)) (by first | decide | (show _ ≤ 2760; dsimp only; omega)) (Nat.le_of_ble_eq_true rfl) (fun M9 L9 c9 f8 => ?_)
  have hO := hO.go c9
  have f9 := f9.trans f8
  refine V_ldc2 dL_errors_228 mk_L_17 ?_
  refine V_zf_ne (tgt := 389) dL_errors_231 dL_errors_232 (by decide) (rfl) ?_
  refine V_ald0 dL_errors_235 ?_
  refine V_iconst (v := 0) dL_errors_236 (by decide) ?_
  refine V_bipush (v := 41) dL_errors_237 (by decide) ?_
  refine V_ch3J (Y' := Y_L_set) ml_L_136 ch_L_set dL_errors_239 ((k_set hO _ _).jval (lC_1 (by decide)) (if_neg (by decide))) (by decide) (by decide) (by first | decide | (show _ ≤ 460; dsimp only; omega)) (by first | decide | (show _ ≤ 2760; dsimp only; omega)) (Nat.le_of_ble_eq_true rfl) (fun M9 L9 c9 f8 => ?_)
  have hO := hO.go c9
  have f9 := f9.trans f8
  refine V_ldc2 dL_errors_242 mk_L_17 ?_
  refine V_zf_ne (tgt := 389) dL_errors_245 dL_errors_246 (by decide) (rfl) ?_
  refine V_ald0 dL_errors_249 ?_
  refine V_iconst (v := 2) dL_errors_250 (by decide) ?_
  refine V_iconst (v := 0) dL_errors_251 (by decide) ?_
  refine V_ch3J (Y' := Y_L_set) ml_L_136 ch_L_set dL_errors_252 ((k_set hO _ _).jval (lC_1 (by decide)) (if_neg (by decide))) (by decide) (by decide) (by first | decide | (show _ ≤ 460; dsimp only; omega)) (by first | decide | (show _ ≤ 2760; dsimp only; omega)) (Nat.le_of_ble_eq_true rfl) (fun M9 L9 c9 f8 => ?_)
  have hO := hO.go c9
  have f9 := f9.trans f8
  refine V_ldc2 dL_errors_255 mk_L_17 ?_
  refine V_zf_ne (tgt := 389) dL_errors_258 dL_errors_259 (by decide) (rfl) ?_
  refine V_ald0 dL_errors_262 ?_
  refine V_iconst (v := 4) dL_errors_263 (by decide) ?_
  refine V_sipush (v := 499) dL_errors_264 (by decide) ?_
  refine V_ch3J (Y' := Y_L_set) ml_L_136 ch_L_set dL_errors_267 ((k_set hO _ _).jval (lC_1 (by decide)) (if_neg (by decide))) (by decide) (by decide) (by first | decide | (show _ ≤ 460; dsimp only; omega)) (by first | decide | (show _ ≤ 2760; dsimp only; omega)) (Nat.le_of_ble_eq_true rfl) (fun M9 L9 c9 f8 => ?_)
  have hO := hO.go c9
  have f9 := f9.trans f8
  refine V_ldc2 dL_errors_270 mk_L_17 ?_
  refine V_zf_ne (tgt := 389) dL_errors_273 dL_errors_274 (by decide) (rfl) ?_
  refine V_ald0 dL_errors_277 ?_
  refine V_iconst (v := 5) dL_errors_278 (by decide) ?_
  refine V_iconst (v := 1) dL_errors_279 (by decide) ?_
  refine V_ch3J (Y' := Y_L_set) ml_L_136 ch_L_set dL_errors_280 ((k_set hO _ _).jval (lC_1 (by decide)) (if_neg (by decide))) (by decide) (by decide) (by first | decide | (show _ ≤ 460; dsimp only; omega)) (by first | decide | (show _ ≤ 2760; dsimp only; omega)) (Nat.le_of_ble_eq_true rfl) (fun M9 L9 c9 f8 => ?_)
  have hO := hO.go c9
  have f9 := f9.trans f8
  refine V_ldc2 dL_errors_283 mk_L_17 ?_
  refine V_zf_ne (tgt := 389) dL_errors_286 dL_errors_287 (by decide) (rfl) ?_
  refine V_ald0 dL_errors_290 ?_
  refine V_iconst (v := 0) dL_errors_291 (by decide) ?_
  refine V_iconst (v := 0) dL_errors_292 (by decide) ?_
  refine V_ch3J (Y' := Y_L_setBorder) ml_L_138 ch_L_setBorder dL_errors_293 ((k_setBorder hO _ _).jval (lC_1 (if_pos (by decide))) (if_neg (by rw [show kdBor S.2.2.1 0 0 = 1 from if_pos (by decide)]; decide))) (by decide) (by decide) (by first | decide | (show _ ≤ 460; dsimp only; omega)) (by first | decide | (show _ ≤ 2760; dsimp only; omega)) (Nat.le_of_ble_eq_true rfl) (fun M9 L9 c9 f8 => ?_)
  have hO := hO.go c9
  have f9 := f9.trans f8
  refine V_ldc2 dL_errors_296 mk_L_39 ?_
  refine V_zf_ne (tgt := 389) dL_errors_299 dL_errors_300 (by decide) (rfl) ?_
  refine V_ald0 dL_errors_303 ?_
  refine V_bipush (v := 8) dL_errors_304 (by decide) ?_
  refine V_bipush (v := 9) dL_errors_306 (by decide) ?_
  refine V_ch3J (Y' := Y_L_setBorder) ml_L_138 ch_L_setBorder dL_errors_308 ((k_setBorder hO _ _).jval (lC_1 (if_pos (by decide))) (if_neg (by rw [show kdBor S.2.2.1 8 9 = 1 from if_pos (by decide)]; decide))) (by decide) (by decide) (by first | decide | (show _ ≤ 460; dsimp only; omega)) (by first | decide | (show _ ≤ 2760; dsimp only; omega)) (Nat.le_of_ble_eq_true rfl) (fun M9 L9 c9 f8 => ?_)
  have hO := hO.go c9
  have f9 := f9.trans f8
  refine V_ldc2 dL_errors_311 mk_L_39 ?_
  refine V_zf_ne (tgt := 389) dL_errors_314 dL_errors_315 (by decide) (rfl) ?_
  refine V_ald0 dL_errors_318 ?_
  refine V_iconst (v := 1) dL_errors_319 (by decide) ?_
  refine V_iconst (v := 0) dL_errors_320 (by decide) ?_
  refine V_ch3J (Y' := Y_L_setBorder) ml_L_138 ch_L_setBorder dL_errors_321 ((k_setBorder hO _ _).jval (lC_2 ((if_neg (by decide)).trans (if_pos (by decide)))) (if_neg (by rw [show kdBor S.2.2.1 1 0 = 2 from (if_neg (by decide)).trans (if_pos (by decide))]; decide))) (by decide) (by decide) (by first | decide | (show _ ≤ 460; dsimp only; omega)) (by first | decide | (show _ ≤ 2760; dsimp only; omega)) (Nat.le_of_ble_eq_true rfl) (fun M9 L9 c9 f8 => ?_)
  have hO := hO.go c9
  have f9 := f9.trans f8
  refine V_ldc2 dL_errors_324 mk_L_17 ?_
  refine V_zf_ne (tgt := 389) dL_errors_327 dL_errors_328 (by decide) (rfl) ?_
  refine V_ald0 dL_errors_331 ?_
  refine V_bipush (v := 7) dL_errors_332 (by decide) ?_
  refine V_sipush (v := 5001) dL_errors_334 (by decide) ?_
  refine V_ch3J (Y' := Y_L_setBorder) ml_L_138 ch_L_setBorder dL_errors_337 ((k_setBorder hO _ _).jval (lC_2 ((if_neg (by decide)).trans (if_pos (by decide)))) (if_neg (by rw [show kdBor S.2.2.1 7 5001 = 2 from (if_neg (by decide)).trans (if_pos (by decide))]; decide))) (by decide) (by decide) (by first | decide | (show _ ≤ 460; dsimp only; omega)) (by first | decide | (show _ ≤ 2760; dsimp only; omega)) (Nat.le_of_ble_eq_true rfl) (fun M9 L9 c9 f8 => ?_)
  have hO := hO.go c9
  have f9 := f9.trans f8
  refine V_ldc2 dL_errors_340 mk_L_17 ?_
  refine V_zf_ne (tgt := 389) dL_errors_343 dL_errors_344 (by decide) (rfl) ?_
  refine V_ald0 dL_errors_347 ?_
  refine V_iconst (v := 2) dL_errors_348 (by decide) ?_
  refine V_ald0 dL_errors_349 ?_
  refine V_iconst (v := 1) dL_errors_350 (by decide) ?_
  refine V_iconst (v := 0) dL_errors_351 (by decide) ?_
  refine V_ch3R (Y' := Y_L_bin) ml_L_111 ch_L_bin dL_errors_352 ((k_bin hO _ _).val (lBin_l (k := 1) (by decide))) (by decide) (by decide) (by first | decide | (show _ ≤ 460; dsimp only; omega)) (by first | decide | (show _ ≤ 2760; dsimp only; omega)) (Nat.le_of_ble_eq_true rfl) ?_
  refine V_l2i dL_errors_355 ?_
  refine V_ch3J (Y' := Y_L_setBorder) ml_L_138 ch_L_setBorder dL_errors_356 ((k_setBorder hO _ _).jval (lC_3 (kdBor_low hO)) (if_neg (kdBor_3 (kdBor_low hO)))) (by decide) (by decide) (by first | decide | (show _ ≤ 460; dsimp only; omega)) (by first | decide | (show _ ≤ 2760; dsimp only; omega)) (Nat.le_of_ble_eq_true rfl) (fun M9 L9 c9 f8 => ?_)
  have hO := hO.go c9
  have f9 := f9.trans f8
  refine V_ldc2 dL_errors_359 mk_L_21 ?_
  refine V_zf_ne (tgt := 389) dL_errors_362 dL_errors_363 (by decide) (rfl) ?_
  refine V_ald0 dL_errors_366 ?_
  refine V_iconst (v := 2) dL_errors_367 (by decide) ?_
  refine V_ald0 dL_errors_368 ?_
  refine V_iconst (v := 3) dL_errors_369 (by decide) ?_
  refine V_iconst (v := 0) dL_errors_370 (by decide) ?_
  refine V_ch3R (Y' := Y_L_bin) ml_L_111 ch_L_bin dL_errors_371 ((k_bin hO _ _).val (lBin_l (k := 3) (by decide))) (by decide) (by decide) (by first | decide | (show _ ≤ 460; dsimp only; omega)) (by first | decide | (show _ ≤ 2760; dsimp only; omega)) (Nat.le_of_ble_eq_true rfl) ?_
  refine V_l2i dL_errors_374 ?_
  refine V_ch3J (Y' := Y_L_setBorder) ml_L_138 ch_L_setBorder dL_errors_375 ((k_setBorder hO _ _).jval (lC_3 (kdBor_up hO)) (if_neg (kdBor_3 (kdBor_up hO)))) (by decide) (by decide) (by first | decide | (show _ ≤ 460; dsimp only; omega)) (by first | decide | (show _ ≤ 2760; dsimp only; omega)) (Nat.le_of_ble_eq_true rfl) (fun M9 L9 c9 f8 => ?_)
  have hO := hO.go c9
  have f9 := f9.trans f8
  refine V_ldc2 dL_errors_378 mk_L_21 ?_
  refine V_zf_ne (tgt := 389) dL_errors_381 dL_errors_382 (by decide) (rfl) ?_
  refine V_iconst (v := 1) dL_errors_385 (by decide) ?_
  refine V_goto (tgt := 390) dL_errors_386 (by decide) ?_
  refine V_ist3 dL_errors_390 rfl (by decide) ?_
  refine V_ild3 dL_errors_391 ?_
  refine V_xf_eq (tgt := 564) dL_errors_392 (by decide) (by decide) ?_
  refine V_ald0 dL_errors_395 ?_
  refine V_iconst (v := (-1)) dL_errors_396 (by decide) ?_
  refine V_iconst (v := 5) dL_errors_397 (by decide) ?_
  refine V_ch3R (Y' := Y_L_wouldBe) ml_L_140 ch_L_wouldBe dL_errors_398 ((k_wouldBe hO _ _).val (lC_1 (by decide))) (by decide) (by decide) (by first | decide | (show _ ≤ 460; dsimp only; omega)) (by first | decide | (show _ ≤ 2760; dsimp only; omega)) (Nat.le_of_ble_eq_true rfl) ?_
  refine V_ldc2 dL_errors_401 mk_L_17 ?_
  refine V_zf_ne (tgt := 564) dL_errors_404 dL_errors_405 (by decide) (rfl) ?_
  refine V_ald0 dL_errors_408 ?_
  refine V_bipush (v := 100) dL_errors_409 (by decide) ?_
  refine V_ch2R (Y' := Y_L_leastSize) ml_L_142 ch_L_leastSize dL_errors_411 ((k_leastSize hO _).val (lC_1 (by decide))) (by decide) (by decide) (by first | decide | (show _ ≤ 460; dsimp only; omega)) (by first | decide | (show _ ≤ 2760; dsimp only; omega)) (Nat.le_of_ble_eq_true rfl) ?_
  refine V_ldc2 dL_errors_414 mk_L_17 ?_
  refine V_zf_ne (tgt := 564) dL_errors_417 dL_errors_418 (by decide) (rfl) ?_
  refine V_ald0 dL_errors_421 ?_
  refine V_iconst (v := (-1)) dL_errors_422 (by decide) ?_
  refine V_ch2R (Y' := Y_L_quietIn) ml_L_144 ch_L_quietIn dL_errors_423 ((k_quietIn hO _).val (lC_1 (by decide))) (by decide) (by decide) (by first | decide | (show _ ≤ 460; dsimp only; omega)) (by first | decide | (show _ ≤ 2760; dsimp only; omega)) (Nat.le_of_ble_eq_true rfl) ?_
  refine V_ldc2 dL_errors_426 mk_L_17 ?_
  refine V_zf_ne (tgt := 564) dL_errors_429 dL_errors_430 (by decide) (rfl) ?_
  refine V_ald0 dL_errors_433 ?_
  refine V_iconst (v := 3) dL_errors_434 (by decide) ?_
  refine V_bipush (v := 10) dL_errors_435 (by decide) ?_
  refine V_iconst (v := 0) dL_errors_437 (by decide) ?_
  refine V_ch4J (Y' := Y_L_replay) ml_L_146 ch_L_replay dL_errors_438 ((k_replay hO _ _ _).jval (lC_1 (by decide)) rfl) (by decide) (by decide) (by first | decide | (show _ ≤ 460; dsimp only; omega)) (by first | decide | (show _ ≤ 2760; dsimp only; omega)) (Nat.le_of_ble_eq_true rfl) (fun M9 L9 c9 f8 => ?_)
  have hO := hO.go c9
  have f9 := f9.trans f8
  refine V_ldc2 dL_errors_441 mk_L_17 ?_
  refine V_zf_ne (tgt := 564) dL_errors_444 dL_errors_445 (by decide) (rfl) ?_
  refine V_ald0 dL_errors_448 ?_
  refine V_iconst (v := 3) dL_errors_449 (by decide) ?_
  refine V_iconst (v := 4) dL_errors_450 (by decide) ?_
  refine V_iconst (v := 4) dL_errors_451 (by decide) ?_
  refine V_ch4J (Y' := Y_L_replay) ml_L_146 ch_L_replay dL_errors_452 ((k_replay hO _ _ _).jval (lC_1 (by decide)) rfl) (by decide) (by decide) (by first | decide | (show _ ≤ 460; dsimp only; omega)) (by first | decide | (show _ ≤ 2760; dsimp only; omega)) (Nat.le_of_ble_eq_true rfl) (fun M9 L9 c9 f8 => ?_)
  have hO := hO.go c9
  have f9 := f9.trans f8
  refine V_ldc2 dL_errors_455 mk_L_17 ?_
  refine V_zf_ne (tgt := 564) dL_errors_458 dL_errors_459 (by decide) (rfl) ?_
  refine V_ald0 dL_errors_462 ?_
  refine V_iconst (v := 3) dL_errors_463 (by decide) ?_
  refine V_ch2J (Y' := Y_L_bestWindow) ml_L_149 ch_L_bestWindow dL_errors_464 ((k_bestWindow hO _).jval (lC_1 (by decide)) rfl) (by decide) (by decide) (by first | decide | (show _ ≤ 460; dsimp only; omega)) (by first | decide | (show _ ≤ 2760; dsimp only; omega)) (Nat.le_of_ble_eq_true rfl) (fun M9 L9 c9 f8 => ?_)
  have hO := hO.go c9
  have f9 := f9.trans f8
  refine V_ldc2 dL_errors_467 mk_L_17 ?_
  refine V_zf_ne (tgt := 564) dL_errors_470 dL_errors_471 (by decide) (rfl) ?_
  refine V_ald0 dL_errors_474 ?_
  refine V_iconst (v := 0) dL_errors_475 (by decide) ?_
  refine V_lconst (v := 0) dL_errors_476 (by decide) ?_
  refine V_ch3J (Y' := Y_L_script) ml_L_151 ch_L_script dL_errors_477 ((k_script hO _ _).jval (lC_1 (by decide)) rfl) (by decide) (by decide) (by first | decide | (show _ ≤ 460; dsimp only; omega)) (by first | decide | (show _ ≤ 2760; dsimp only; omega)) (Nat.le_of_ble_eq_true rfl) (fun M9 L9 c9 f8 => ?_)
  have hO := hO.go c9
  have f9 := f9.trans f8
  refine V_ldc2 dL_errors_480 mk_L_17 ?_
  refine V_zf_ne (tgt := 564) dL_errors_483 dL_errors_484 (by decide) (rfl) ?_
  refine V_ald0 dL_errors_487 ?_
  refine V_iconst (v := 3) dL_errors_488 (by decide) ?_
  refine V_ldc2 dL_errors_489 mk_L_155 ?_
  refine V_ch3J (Y' := Y_L_script) ml_L_151 ch_L_script dL_errors_492 ((k_script hO _ _).jval (lC_1 (by decide)) rfl) (by decide) (by decide) (by first | decide | (show _ ≤ 460; dsimp only; omega)) (by first | decide | (show _ ≤ 2760; dsimp only; omega)) (Nat.le_of_ble_eq_true rfl) (fun M9 L9 c9 f8 => ?_)
  have hO := hO.go c9
  have f9 := f9.trans f8
  refine V_ldc2 dL_errors_495 mk_L_17 ?_
  refine V_zf_ne (tgt := 564) dL_errors_498 dL_errors_499 (by decide) (rfl) ?_
  refine V_ald0 dL_errors_502 ?_
  refine V_lconst (v := 1) dL_errors_503 (by decide) ?_
  refine V_iconst (v := 0) dL_errors_504 (by decide) ?_
  refine V_ch3J (Y' := Y_L_simulate) ml_L_157 ch_L_simulate dL_errors_505 ((k_simulate hO _ _).jval (lC_1 (by decide)) rfl) (by decide) (by decide) (by first | decide | (show _ ≤ 460; dsimp only; omega)) (by first | decide | (show _ ≤ 2760; dsimp only; omega)) (Nat.le_of_ble_eq_true rfl) (fun M9 L9 c9 f8 => ?_)
  have hO := hO.go c9
  have f9 := f9.trans f8
  refine V_ldc2 dL_errors_508 mk_L_17 ?_
  refine V_zf_ne (tgt := 564) dL_errors_511 dL_errors_512 (by decide) (rfl) ?_
  refine V_ald0 dL_errors_515 ?_
  refine V_iconst (v := 2) dL_errors_516 (by decide) ?_
  refine V_ch2J (Y' := Y_L_save) ml_L_160 ch_L_save dL_errors_517 ((k_save hO _).jval (lC_1 (by decide)) (if_neg (by decide))) (by decide) (by decide) (by first | decide | (show _ ≤ 460; dsimp only; omega)) (by first | decide | (show _ ≤ 2760; dsimp only; omega)) (Nat.le_of_ble_eq_true rfl) (fun M9 L9 c9 f8 => ?_)
  have hO := hO.go c9
  have f9 := f9.trans f8
  refine V_ldc2 dL_errors_520 mk_L_39 ?_
  refine V_zf_ne (tgt := 564) dL_errors_523 dL_errors_524 (by decide) (rfl) ?_
  refine V_ald0 dL_errors_527 ?_
  refine V_iconst (v := 2) dL_errors_528 (by decide) ?_
  refine V_ch2J (Y' := Y_L_restore) ml_L_162 ch_L_restore dL_errors_529 ((k_restore hO _).jval (lC_1 (if_pos (by decide))) (if_neg (by rw [show kdRes S 2 = 1 from if_pos (by decide)]; decide))) (by decide) (by decide) (by first | decide | (show _ ≤ 460; dsimp only; omega)) (by first | decide | (show _ ≤ 2760; dsimp only; omega)) (Nat.le_of_ble_eq_true rfl) (fun M9 L9 c9 f8 => ?_)
  have hO := hO.go c9
  have f9 := f9.trans f8
  refine V_ldc2 dL_errors_532 mk_L_39 ?_
  refine V_zf_ne (tgt := 564) dL_errors_535 dL_errors_536 (by decide) (rfl) ?_
  refine V_ald0 dL_errors_539 ?_
  refine V_iconst (v := (-1)) dL_errors_540 (by decide) ?_
  refine V_ch2J (Y' := Y_L_append) ml_L_164 ch_L_append dL_errors_541 ((k_append hO _).jval (lC_1 (if_pos (by decide))) (if_neg (by rw [show kdApp S (-1) = 1 from if_pos (by decide)]; decide))) (by decide) (by decide) (by first | decide | (show _ ≤ 460; dsimp only; omega)) (by first | decide | (show _ ≤ 2760; dsimp only; omega)) (Nat.le_of_ble_eq_true rfl) (fun M9 L9 c9 f8 => ?_)
  have hO := hO.go c9
  have f9 := f9.trans f8
  refine V_ldc2 dL_errors_544 mk_L_17 ?_
  refine V_zf_ne (tgt := 564) dL_errors_547 dL_errors_548 (by decide) (rfl) ?_
  refine V_ald0 dL_errors_551 ?_
  refine V_cs1RA lk_L_122 cc_L_now dL_errors_552 (c_L_now hO) (xFit.mk (by decide) (by decide) (by first | decide | (show _ ≤ 460; dsimp only; omega)) (by first | decide | (show _ ≤ 2760; dsimp only; omega))) (Nat.le_of_ble_eq_true rfl) ?_
  refine V_lld1 dL_errors_555 ?_
  refine V_zf_ne (tgt := 564) dL_errors_556 dL_errors_557 (by decide) (rfl) ?_
  refine V_iconst (v := 1) dL_errors_560 (by decide) ?_
  refine V_goto (tgt := 565) dL_errors_561 (by decide) ?_
  exact V_zret rfl dL_errors_565 (Or.inr rfl) (by first | decide | (show _ ≤ 460; dsimp only; omega)) (by first | decide | (show _ ≤ 2760; dsimp only; omega)) ⟨rfl, _, _, rfl, hO.2.2.1, f9⟩
end C79

/-! ===== the law: all that is told of a plate, as one number ===== -/
def nwF (f : Nat → Int64) : Nat → Int64 → Int64
  | 0, v => v
  | k + 1, v => 31 * nwF f k v + f k
def aNow (R : xRow) : Int64 := 31 * nwF (fun k => lFate R (nI k)) (R 47).toNatClampNeg (nwF (fun k => lPulse R (nI k)) 4 (nwF (fun k => lBin R (nI (k / 5)) (nI (k % 5))) 40 (nwF (fun k => lSetting R (nI k)) 5 (nwF (fun k => lAbout R (nI k)) 12 31)))) + (R 190).toInt64
section C78
variable {E : xEnv} {l : Launch} {n : Nat} {K : xKnd} {G : xRef} {M : xMem} {L : xLng} {o : Nat} {S : xSp}
theorem OK.lf (hO : OK l n K G M L o S) : ∃ f, f ≤ 60 ∧ S.2.2.1 47 = nI f := by
  obtain ⟨-, -, -, T, B, hw, -⟩ := hO
  obtain ⟨k, -, k2, hk⟩ := hw.1.2.2.2.2.2.2.2.2.2.2.2.1
  exact ⟨k, k2, hk⟩
theorem lAbout_10 {R : xRow} {f : Nat} (hf : f ≤ 60) (h : R 47 = nI f) : lAbout R 10 = lN f := by
  unfold lAbout
  rw [show kdAbout 10 = 0 by decide, lC_0 rfl, show aAbout R 10 = R 47 by simp [aAbout], h, nI_l (by omega)]
theorem c_L_now (hO : OK l n K G M L o S) : Con E l Y_L_now [.ref o] (false, n, K, G, M, L) (xR (some (.long (aNow S.2.2.1))) (false, n, K, G, M, L)) xF := by
  have hx := hO.2.1.1
  obtain ⟨f, hf, ef⟩ := hO.lf
  refine Con.mk 3 mp_L_now rfl (ls := [some (.ref o), none, none, none]) rfl (Nat.le_of_ble_eq_true rfl) ?_
  have l5 : ∀ (d k : Nat) (v : Int64), k + d = f → aNow S.2.2.1 = 31 * nwF (fun k => lFate S.2.2.1 (nI k)) f v + (S.2.2.1 190).toInt64 → V E l Y_L_now (xQm E Y_L_now (xR (some (.long (aNow S.2.2.1))) (false, n, K, G, M, L)) xF) (false, n, K, G, M, L) (61 + 2 * k, 366 + 12 * k) 113 [some (.ref o), some (.long (nwF (fun k => lFate S.2.2.1 (nI k)) k v)), none, some (.int (nI k))] [] := by
    intro d
    induction d with
    | zero =>
      intro k v hk e
      have ek : k = f := by omega
      subst ek
      refine V_ild3 dL_now_113 ?_
      refine V_i2l dL_now_114 ?_
      refine V_ald0 dL_now_115 ?_
      refine V_bipush (v := 10) dL_now_116 (by decide) ?_
      refine V_ch2R (Y' := Y_L_about) ml_L_104 ch_L_about dL_now_118 ((k_about hO _).val (lAbout_10 hf ef)) (by decide) (by decide) (by first | decide | (show _ ≤ 200; dsimp only; omega)) (by first | decide | (show _ ≤ 1200; dsimp only; omega)) (Nat.le_of_ble_eq_true rfl) ?_
      refine V_zt_ge (tgt := 143) dL_now_121 dL_now_122 (by decide) (by rw [nI_l (by omega)]; exact fun q => absurd ((lN_lt (by omega) (by omega)).mp q) (Nat.lt_irrefl _)) ?_
      refine V_ldc2 dL_now_143 mk_L_102 ?_
      refine V_lld1 dL_now_146 ?_
      refine V_lmul dL_now_147 ?_
      refine V_ald0 dL_now_148 ?_
      refine V_cv0R lk_L_118 cc_X5_trueRain dL_now_149 (by assumption) (c_X5_trueRain hO.2.1 hO.2.2.1) (xFit.mk (by decide) (by decide) (by first | decide | (show _ ≤ 200; dsimp only; omega)) (by first | decide | (show _ ≤ 1200; dsimp only; omega))) rfl rfl (Nat.le_of_ble_eq_true rfl) ?_
      refine V_ladd dL_now_152 ?_
      exact V_lret rfl dL_now_153 (by first | decide | (show _ ≤ 200; dsimp only; omega)) (by first | decide | (show _ ≤ 1200; dsimp only; omega)) ⟨by rw [e], rfl⟩
    | succ d ih =>
      intro k v hk e
      refine V_ild3 dL_now_113 ?_
      refine V_i2l dL_now_114 ?_
      refine V_ald0 dL_now_115 ?_
      refine V_bipush (v := 10) dL_now_116 (by decide) ?_
      refine V_ch2R (Y' := Y_L_about) ml_L_104 ch_L_about dL_now_118 ((k_about hO _).val (lAbout_10 hf ef)) (by decide) (by decide) (by first | decide | (show _ ≤ 200; dsimp only; omega)) (by first | decide | (show _ ≤ 1200; dsimp only; omega)) (Nat.le_of_ble_eq_true rfl) ?_
      refine V_zf_ge (tgt := 143) dL_now_121 dL_now_122 (by decide) (by rw [nI_l (by omega)]; exact (lN_lt (by omega) (by omega)).mpr (by omega)) ?_
      refine V_ldc2 dL_now_125 mk_L_102 ?_
      refine V_lld1 dL_now_128 ?_
      refine V_lmul dL_now_129 ?_
      refine V_ald0 dL_now_130 ?_
      refine V_ild3 dL_now_131 ?_
      refine V_ch2R (Y' := Y_L_fate) ml_L_116 ch_L_fate dL_now_132 (k_fate hO _) (by decide) (by decide) (by first | decide | (show _ ≤ 200; dsimp only; omega)) (by first | decide | (show _ ≤ 1200; dsimp only; omega)) (Nat.le_of_ble_eq_true rfl) ?_
      refine V_ladd dL_now_135 ?_
      refine V_lst1 dL_now_136 rfl (by decide) ?_
      refine V_inc3 dL_now_137 rfl (nI_1 _) ?_
      refine V_goto (tgt := 113) dL_now_140 (by decide) ?_
      refine V_widen (k := 61 + 2 * (k + 1)) (n := 366 + 12 * (k + 1)) (by dsimp only; omega) (by dsimp only; omega) (ih (k + 1) v (by omega) e)
  have l4 : ∀ (d k : Nat) (v : Int64), k + d = 4 → aNow S.2.2.1 = 31 * nwF (fun k => lFate S.2.2.1 (nI k)) f (nwF (fun k => lPulse S.2.2.1 (nI k)) 4 v) + (S.2.2.1 190).toInt64 → V E l Y_L_now (xQm E Y_L_now (xR (some (.long (aNow S.2.2.1))) (false, n, K, G, M, L)) xF) (false, n, K, G, M, L) (57 + k, 342 + 6 * k) 88 [some (.ref o), some (.long (nwF (fun k => lPulse S.2.2.1 (nI k)) k v)), none, some (.int (nI k))] [] := by
    intro d
    induction d with
    | zero =>
      intro k v hk e
      have ek : k = 4 := by omega
      subst ek
      refine V_ild3 dL_now_88 ?_
      refine V_iconst (v := 4) dL_now_89 (by decide) ?_
      refine V_yt_ge (tgt := 111) dL_now_90 (by decide) (by decide) ?_
      refine V_iconst (v := 0) dL_now_111 (by decide) ?_
      refine V_ist3 dL_now_112 rfl (by decide) ?_
      exact l5 f 0 _ (by omega) e
    | succ d ih =>
      intro k v hk e
      refine V_ild3 dL_now_88 ?_
      refine V_iconst (v := 4) dL_now_89 (by decide) ?_
      refine V_yf_ge (tgt := 111) dL_now_90 (by decide) (nI_lt (b := 4) (by omega) (by decide)) ?_
      refine V_ldc2 dL_now_93 mk_L_102 ?_
      refine V_lld1 dL_now_96 ?_
      refine V_lmul dL_now_97 ?_
      refine V_ald0 dL_now_98 ?_
      refine V_ild3 dL_now_99 ?_
      refine V_ch2R (Y' := Y_L_pulse) ml_L_114 ch_L_pulse dL_now_100 (k_pulse hO _) (by decide) (by decide) (by first | decide | (show _ ≤ 200; dsimp only; omega)) (by first | decide | (show _ ≤ 1200; dsimp only; omega)) (Nat.le_of_ble_eq_true rfl) ?_
      refine V_ladd dL_now_103 ?_
      refine V_lst1 dL_now_104 rfl (by decide) ?_
      refine V_inc3 dL_now_105 rfl (nI_1 _) ?_
      refine V_goto (tgt := 88) dL_now_108 (by decide) ?_
      refine V_widen (k := 57 + (k + 1)) (n := 342 + 6 * (k + 1)) (by dsimp only; omega) (by dsimp only; omega) (ih (k + 1) v (by omega) e)
  have l3 : ∀ (d k : Nat) (v : Int64), k + d = 40 → aNow S.2.2.1 = 31 * nwF (fun k => lFate S.2.2.1 (nI k)) f (nwF (fun k => lPulse S.2.2.1 (nI k)) 4 (nwF (fun k => lBin S.2.2.1 (nI (k / 5)) (nI (k % 5))) 40 v)) + (S.2.2.1 190).toInt64 → V E l Y_L_now (xQm E Y_L_now (xR (some (.long (aNow S.2.2.1))) (false, n, K, G, M, L)) xF) (false, n, K, G, M, L) (17 + k, 102 + 6 * k) 57 [some (.ref o), some (.long (nwF (fun k => lBin S.2.2.1 (nI (k / 5)) (nI (k % 5))) k v)), none, some (.int (nI k))] [] := by
    intro d
    induction d with
    | zero =>
      intro k v hk e
      have ek : k = 40 := by omega
      subst ek
      refine V_ild3 dL_now_57 ?_
      refine V_bipush (v := 40) dL_now_58 (by decide) ?_
      refine V_yt_ge (tgt := 86) dL_now_60 (by decide) (by decide) ?_
      refine V_iconst (v := 0) dL_now_86 (by decide) ?_
      refine V_ist3 dL_now_87 rfl (by decide) ?_
      exact l4 4 0 _ (by omega) e
    | succ d ih =>
      intro k v hk e
      have e1 : nI k / 5 = nI (k / 5) := pkD k 5 (by omega) (by decide) (by decide)
      have e2 : nI k - nI k / 5 * 5 = nI (k % 5) := pkR k 5 (by omega) (by decide) (by decide)
      refine V_ild3 dL_now_57 ?_
      refine V_bipush (v := 40) dL_now_58 (by decide) ?_
      refine V_yf_ge (tgt := 86) dL_now_60 (by decide) (nI_lt (b := 40) (by omega) (by decide)) ?_
      refine V_ldc2 dL_now_63 mk_L_102 ?_
      refine V_lld1 dL_now_66 ?_
      refine V_lmul dL_now_67 ?_
      refine V_ald0 dL_now_68 ?_
      refine V_ild3 dL_now_69 ?_
      refine V_iconst (v := 5) dL_now_70 (by decide) ?_
      refine V_idiv dL_now_71 (by decide) ?_
      refine V_ild3 dL_now_72 ?_
      refine V_iconst (v := 5) dL_now_73 (by decide) ?_
      refine V_irem dL_now_74 (by decide) ?_
      rw [e2, e1]
      refine V_ch3R (Y' := Y_L_bin) ml_L_111 ch_L_bin dL_now_75 (k_bin hO _ _) (by decide) (by decide) (by first | decide | (show _ ≤ 200; dsimp only; omega)) (by first | decide | (show _ ≤ 1200; dsimp only; omega)) (Nat.le_of_ble_eq_true rfl) ?_
      refine V_ladd dL_now_78 ?_
      refine V_lst1 dL_now_79 rfl (by decide) ?_
      refine V_inc3 dL_now_80 rfl (nI_1 _) ?_
      refine V_goto (tgt := 57) dL_now_83 (by decide) ?_
      refine V_widen (k := 17 + (k + 1)) (n := 102 + 6 * (k + 1)) (by dsimp only; omega) (by dsimp only; omega) (ih (k + 1) v (by omega) e)
  have l2 : ∀ (d k : Nat) (v : Int64), k + d = 5 → aNow S.2.2.1 = 31 * nwF (fun k => lFate S.2.2.1 (nI k)) f (nwF (fun k => lPulse S.2.2.1 (nI k)) 4 (nwF (fun k => lBin S.2.2.1 (nI (k / 5)) (nI (k % 5))) 40 (nwF (fun k => lSetting S.2.2.1 (nI k)) 5 v))) + (S.2.2.1 190).toInt64 → V E l Y_L_now (xQm E Y_L_now (xR (some (.long (aNow S.2.2.1))) (false, n, K, G, M, L)) xF) (false, n, K, G, M, L) (12 + k, 72 + 6 * k) 32 [some (.ref o), some (.long (nwF (fun k => lSetting S.2.2.1 (nI k)) k v)), none, some (.int (nI k))] [] := by
    intro d
    induction d with
    | zero =>
      intro k v hk e
      have ek : k = 5 := by omega
      subst ek
      refine V_ild3 dL_now_32 ?_
      refine V_iconst (v := 5) dL_now_33 (by decide) ?_
      refine V_yt_ge (tgt := 55) dL_now_34 (by decide) (by decide) ?_
      refine V_iconst (v := 0) dL_now_55 (by decide) ?_
      refine V_ist3 dL_now_56 rfl (by decide) ?_
      exact l3 40 0 _ (by omega) e
    | succ d ih =>
      intro k v hk e
      refine V_ild3 dL_now_32 ?_
      refine V_iconst (v := 5) dL_now_33 (by decide) ?_
      refine V_yf_ge (tgt := 55) dL_now_34 (by decide) (nI_lt (b := 5) (by omega) (by decide)) ?_
      refine V_ldc2 dL_now_37 mk_L_102 ?_
      refine V_lld1 dL_now_40 ?_
      refine V_lmul dL_now_41 ?_
      refine V_ald0 dL_now_42 ?_
      refine V_ild3 dL_now_43 ?_
      refine V_ch2R (Y' := Y_L_setting) ml_L_109 ch_L_setting dL_now_44 (k_setting hO _) (by decide) (by decide) (by first | decide | (show _ ≤ 200; dsimp only; omega)) (by first | decide | (show _ ≤ 1200; dsimp only; omega)) (Nat.le_of_ble_eq_true rfl) ?_
      refine V_ladd dL_now_47 ?_
      refine V_lst1 dL_now_48 rfl (by decide) ?_
      refine V_inc3 dL_now_49 rfl (nI_1 _) ?_
      refine V_goto (tgt := 32) dL_now_52 (by decide) ?_
      refine V_widen (k := 12 + (k + 1)) (n := 72 + 6 * (k + 1)) (by dsimp only; omega) (by dsimp only; omega) (ih (k + 1) v (by omega) e)
  have l1 : ∀ (d k : Nat), k + d = 12 → V E l Y_L_now (xQm E Y_L_now (xR (some (.long (aNow S.2.2.1))) (false, n, K, G, M, L)) xF) (false, n, K, G, M, L) (k, 6 * k) 6 [some (.ref o), some (.long (nwF (fun k => lAbout S.2.2.1 (nI k)) k 31)), none, some (.int (nI k))] [] := by
    intro d
    induction d with
    | zero =>
      intro k hk
      have ek : k = 12 := by omega
      subst ek
      refine V_ild3 dL_now_6 ?_
      refine V_bipush (v := 12) dL_now_7 (by decide) ?_
      refine V_yt_ge (tgt := 30) dL_now_9 (by decide) (by decide) ?_
      refine V_iconst (v := 0) dL_now_30 (by decide) ?_
      refine V_ist3 dL_now_31 rfl (by decide) ?_
      exact l2 5 0 (nwF (fun k => lAbout S.2.2.1 (nI k)) 12 31) (by omega) (by unfold aNow; rw [ef, nI_clamp (by omega)])
    | succ d ih =>
      intro k hk
      refine V_ild3 dL_now_6 ?_
      refine V_bipush (v := 12) dL_now_7 (by decide) ?_
      refine V_yf_ge (tgt := 30) dL_now_9 (by decide) (nI_lt (b := 12) (by omega) (by decide)) ?_
      refine V_ldc2 dL_now_12 mk_L_102 ?_
      refine V_lld1 dL_now_15 ?_
      refine V_lmul dL_now_16 ?_
      refine V_ald0 dL_now_17 ?_
      refine V_ild3 dL_now_18 ?_
      refine V_ch2R (Y' := Y_L_about) ml_L_104 ch_L_about dL_now_19 (k_about hO _) (by decide) (by decide) (by first | decide | (show _ ≤ 200; dsimp only; omega)) (by first | decide | (show _ ≤ 1200; dsimp only; omega)) (Nat.le_of_ble_eq_true rfl) ?_
      refine V_ladd dL_now_22 ?_
      refine V_lst1 dL_now_23 rfl (by decide) ?_
      refine V_inc3 dL_now_24 rfl (nI_1 _) ?_
      refine V_goto (tgt := 6) dL_now_27 (by decide) ?_
      refine V_widen (k := k + 1) (n := 6 * (k + 1)) (by dsimp only; omega) (by dsimp only; omega) (ih (k + 1) (by omega))
  refine V_ldc2 dL_now_0 mk_L_102 ?_
  refine V_lst1 dL_now_3 rfl (by decide) ?_
  refine V_iconst (v := 0) dL_now_4 (by decide) ?_
  refine V_ist3 dL_now_5 rfl (by decide) ?_
  exact l1 12 0 (by omega)
end C78

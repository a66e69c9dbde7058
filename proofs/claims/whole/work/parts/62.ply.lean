/-! ===== the reference: the record is played ===== -/
section P62
variable {R Q : xRow} {T B : Nat}
theorem rDr_6 (hw : WFr Q T B) {t z : Int32} {f : Nat} (hf : f < 4) : rDr Q t z (6 + f) = if rDrF Q t z = f then Q (6 + f) + 1 else Q (6 + f) := by
  obtain ⟨l60, e47⟩ := hw.len
  obtain ⟨l40, e108⟩ := hw.rlen
  show rDrM Q (xLf Q) (xLr Q) t z (6 + f) = _
  rw [rDrM_eq]
  unfold rEn
  rw [rRc_out (by omega) l40, rTr_out (by omega) l60, upR_n (by omega)]
  by_cases e : rDrF Q t z = f
  · rw [if_pos e, e, upR_s, rFl_o (by omega), rGo_o (by omega)]
  · rw [if_neg e, upR_n (by omega), rFl_o (by omega), rGo_o (by omega)]
theorem aRep_6 (hw : WFr R T B) {w d : Int32} (hw9 : nb w 0 20) (hd9 : nb d 1 9) (hT : T ≤ 250000) {f : Nat} (hf : f < 4) : ∀ k, k ≤ xLr R → rPlay R w d k (6 + f) = aRep R w d (nI f) k
  | 0, _ => by
    show rSetup R w d (6 + f) = 0
    rw [rSetup_o (by omega) (by omega)]
    unfold rCln
    rw [if_neg (by omega), if_neg (by omega), if_neg (by omega), if_neg (by omega), if_neg (by omega), if_neg (by omega), if_neg (by omega), if_neg (by omega), if_neg (by omega), if_neg (by omega), if_neg (by omega)]
  | k + 1, hk => by
    have ih := aRep_6 hw hw9 hd9 hT hf k (by omega)
    have wq := hw.play hw9 hd9 hT k (by omega)
    have f4 : rDrF (rPlay R w d k) (R (109 + 2 * k)) (R (110 + 2 * k)) < 4 := rFt_lt
    rw [rPlay, rDr_6 wq hf, aRep, ih]
    by_cases e : rDrF (rPlay R w d k) (R (109 + 2 * k)) (R (110 + 2 * k)) = f
    · rw [if_pos e, if_pos (by rw [e])]
    · rw [if_neg e, if_neg (fun q => e ((nI_eq (by omega) (by omega)).mp q))]
theorem Sh.setup (h : Sh R) {w d : Int32} : Sh (rSetup R w d) := fun i hi => by rw [rSetup_o (by omega) (by omega)]; exact Sh.cln i hi
theorem Sh.play (h : Sh R) (hw : WFr R T B) {w d : Int32} (hw9 : nb w 0 20) (hd9 : nb d 1 9) (hT : T ≤ 250000) : ∀ k, k ≤ xLr R → Sh (rPlay R w d k)
  | 0, _ => h.setup
  | k + 1, hk => (h.play hw hw9 hd9 hT k (by omega)).dr (hw.play hw9 hd9 hT k (by omega)) _ _
end P62
section C62
variable {E : xEnv} {l : Launch} {x : Bool} {n : Nat} {K : xKnd} {G : xRef} {M : xMem} {L : xLng} {a m T B : Nat} {S : xSp}
theorem c_X6_play (h : rM n K G m) (hc : MRel M m S) (hw : WFr S.2.2.1 T B) (hT : T ≤ 250000) {w d : Int32} (hw9 : nb w 0 20) (hd9 : nb d 1 9) :
    Con E l Y_X6_play [.ref m, .int w, .int d] (x, n, K, G, M, L) (xR none (x, n, K, G, xro M (m + 4) (rPlay S.2.2.1 w d (xLr S.2.2.1)), L)) xF := by
  obtain ⟨h0, -, -, -, -, g6, h3, g7, h4, -⟩ := h
  have r0 : M (m + 3) = S.2.2.1 := hc.2.2.1
  have s4 := hc.2.2.2.1.2.2
  obtain ⟨l40, e108⟩ := hw.rlen
  generalize S.2.2.1 = R at *
  have loop : ∀ (r k : Nat), r + k = xLr R → V E l Y_X6_play (xQm E Y_X6_play (xR none (x, n, K, G, xro M (m + 4) (rPlay R w d (xLr R)), L)) xF) (x, n, K, G, xro M (m + 4) (rPlay R w d k), L) (0, 0) 54 [some (.ref m), some (.int w), some (.int d), some (.int (nI k))] [] := by
    intro r
    induction r with
    | zero =>
      intro k hk
      have e : k = xLr R := by omega
      rw [← e]
      refine V_ild3 dX6_play_54 ?_
      refine V_ald0 dX6_play_55 ?_
      refine V_getR fd_X6_16 dX6_play_56 (by assumption) (by assumption) rfl ?_
      refine V_bipush (v := 108) dX6_play_59 (by decide) ?_
      refine V_iald (j := 108) dX6_play_61 (by assumption) (by decide) (by decide) ?_
      refine V_icmp_ge (tgt := 103) dX6_play_62 (by decide) (fun h62 => ?_) (fun h62 => ?_)
      · exact V_vret rfl dX6_play_103 (by decide) (by decide) ⟨rfl, rfl⟩
      · exact absurd h62 (by rw [xro_n (by omega), r0, e108, ← e]; exact nI_nlt (Nat.le_refl k) (by omega))
    | succ r ih =>
      intro k hk
      refine V_ild3 dX6_play_54 ?_
      refine V_ald0 dX6_play_55 ?_
      refine V_getR fd_X6_16 dX6_play_56 (by assumption) (by assumption) rfl ?_
      refine V_bipush (v := 108) dX6_play_59 (by decide) ?_
      refine V_iald (j := 108) dX6_play_61 (by assumption) (by decide) (by decide) ?_
      refine V_icmp_ge (tgt := 103) dX6_play_62 (by decide) (fun h62 => ?_) (fun h62 => ?_)
      · exact absurd (by rw [xro_n (by omega), r0, e108]; exact nI_lt (by omega) (by omega)) h62
      · refine V_ald0 dX6_play_65 ?_
        refine V_getR fd_X6_19 dX6_play_66 (by assumption) (by assumption) rfl ?_
        refine V_ald0 dX6_play_69 ?_
        refine V_getR fd_X6_16 dX6_play_70 (by assumption) (by assumption) rfl ?_
        refine V_bipush (v := 109) dX6_play_73 (by decide) ?_
        refine V_iconst (v := 2) dX6_play_75 (by decide) ?_
        refine V_ild3 dX6_play_76 ?_
        refine V_imul dX6_play_77 ?_
        refine V_iadd dX6_play_78 ?_
        refine V_iald (j := 109 + 2 * k) dX6_play_79 (by assumption) kI_109 (by omega) ?_
        refine V_ald0 dX6_play_80 ?_
        refine V_getR fd_X6_16 dX6_play_81 (by assumption) (by assumption) rfl ?_
        refine V_bipush (v := 109) dX6_play_84 (by decide) ?_
        refine V_iconst (v := 2) dX6_play_86 (by decide) ?_
        refine V_ild3 dX6_play_87 ?_
        refine V_imul dX6_play_88 ?_
        refine V_iadd dX6_play_89 ?_
        refine V_iconst (v := 1) dX6_play_90 (by decide) ?_
        refine V_iadd dX6_play_91 ?_
        refine V_iald (j := 110 + 2 * k) dX6_play_92 (by assumption) kI_110 (by omega) ?_
        rw [xro_n (show m + 3 ≠ m + 4 by omega), r0]
        refine V_cs3R lk_X6_117 cc_X6_goDrop dX6_play_93 (c_X6_goDrop h4 (by rw [xro_s]; exact hw.play hw9 hd9 hT k (by omega)) _ _) ft_X6_play_X6_goDrop rfl rfl (Nat.le_of_ble_eq_true rfl) ?_
        rw [xro_s, xro_ro]
        refine V_pop dX6_play_96 rfl ?_
        refine V_inc3 dX6_play_97 rfl (nI_1 k) ?_
        refine V_goto (tgt := 54) dX6_play_100 (by decide) ?_
        exact ih (k + 1) (by omega)
  refine Con.mk 1 mp_X6_play rfl (ls := [some (.ref m), some (.int w), some (.int d), none]) rfl (Nat.le_of_ble_eq_true rfl) ?_
  refine V_ald0 dX6_play_0 ?_
  refine V_getR fd_X6_19 dX6_play_1 (by assumption) (by assumption) rfl ?_
  refine V_cs1U lk_X6_32 cc_X6_clean dX6_play_4 (c_X6_clean h4) ft_X6_play_X6_clean rfl rfl (Nat.le_of_ble_eq_true rfl) ?_
  rw [rCl_sh s4]
  refine V_ald0 dX6_play_7 ?_
  refine V_getR fd_X6_16 dX6_play_8 (by assumption) (by assumption) rfl ?_
  refine V_iconst (v := 1) dX6_play_11 (by decide) ?_
  refine V_ald0 dX6_play_12 ?_
  refine V_getR fd_X6_19 dX6_play_13 (by assumption) (by assumption) rfl ?_
  refine V_iconst (v := 1) dX6_play_16 (by decide) ?_
  refine V_iconst (v := 5) dX6_play_17 (by decide) ?_
  refine V_cs5U lk_X6_49 cc_X6_copy dX6_play_18 (c_X6_copy h3 h4 (s := 1) (d := 1) (m := 5) (by decide) (by decide) (Or.inl (by omega))) ft_X6_play_X6_copy rfl rfl (Nat.le_of_ble_eq_true rfl) ?_
  rw [xro_s, xro_ro, xro_n (show m + 3 ≠ m + 4 by omega), r0]
  refine V_ald0 dX6_play_21 ?_
  refine V_getR fd_X6_16 dX6_play_22 (by assumption) (by assumption) rfl ?_
  refine V_bipush (v := 16) dX6_play_25 (by decide) ?_
  refine V_ald0 dX6_play_27 ?_
  refine V_getR fd_X6_19 dX6_play_28 (by assumption) (by assumption) rfl ?_
  refine V_bipush (v := 16) dX6_play_31 (by decide) ?_
  refine V_bipush (v := 7) dX6_play_33 (by decide) ?_
  refine V_cs5U lk_X6_49 cc_X6_copy dX6_play_35 (c_X6_copy h3 h4 (s := 16) (d := 16) (m := 7) (by decide) (by decide) (Or.inl (by omega))) ft_X6_play_X6_copy rfl rfl (Nat.le_of_ble_eq_true rfl) ?_
  rw [xro_s, xro_ro, xro_n (show m + 3 ≠ m + 4 by omega), r0]
  refine V_ald0 dX6_play_38 ?_
  refine V_getR fd_X6_19 dX6_play_39 (by assumption) (by assumption) rfl ?_
  refine V_iconst (v := 2) dX6_play_42 (by decide) ?_
  refine V_ild1 dX6_play_43 ?_
  refine V_iast (j := 2) dX6_play_44 (by assumption) (by decide) (by decide) ?_
  refine V_ald0 dX6_play_45 ?_
  refine V_getR fd_X6_19 dX6_play_46 (by assumption) (by assumption) rfl ?_
  refine V_iconst (v := 3) dX6_play_49 (by decide) ?_
  refine V_ild2 dX6_play_50 ?_
  refine V_iast (j := 3) dX6_play_51 (by assumption) (by decide) (by decide) ?_
  refine V_iconst (v := 0) dX6_play_52 (by decide) ?_
  refine V_ist3 dX6_play_53 rfl (by decide) ?_
  simp only [xup_r, xro_s, xro_ro]
  exact loop (xLr R) 0 (by omega)
theorem c_X6_replay (h : rM n K G m) (hc : MRel M m S) (hw : WFr S.2.2.1 T B) (hT : T ≤ 250000) (w d f : Int32) : Con E l Y_X6_replay [.ref m, .int w, .int d, .int f] (x, n, K, G, M, L) (xN (kdRep w d f) (aRep S.2.2.1 w d f (xLr S.2.2.1)) S m x n K G M L) xF := by
  have hm := h
  obtain ⟨h0, -, -, -, -, g6, h3, g7, h4, -⟩ := h
  refine Con.mk 0 mp_X6_replay rfl (ls := [some (.ref m), some (.int w), some (.int d), some (.int f)]) rfl (Nat.le_of_ble_eq_true rfl) ?_
  by_cases c : kdSet 1 w = 0 ∧ kdSet 2 d = 0 ∧ kdO f 0 3 = 0
  · have kd : kdRep w d f = 0 := if_pos c
    obtain ⟨c1, c2, c3⟩ := c
    have cf : ¬ (f < 0 ∨ 3 < f) := fun q => absurd c3 (by rw [kdO_1 q]; decide)
    have cf' := cf
    rw [not_or] at cf'
    obtain ⟨j, hj, ej⟩ := xIdx (N := 3) (by decide) cf'.1 cf'.2
    have e6 := aRep_6 hw (kdSet_1 c1) (kdSet_2 c2) hT (f := j) (by omega) (xLr S.2.2.1) (Nat.le_refl _)
    refine V_ald0 dX6_replay_0 ?_
    refine V_iconst (v := 1) dX6_replay_1 (by decide) ?_
    refine V_ild1 dX6_replay_2 ?_
    refine V_cs2R lk_X6_189 cc_X6_isSetting dX6_replay_3 (c_X6_isSetting 1 w) ft_X6_replay_X6_isSetting rfl rfl (Nat.le_of_ble_eq_true rfl) ?_
    refine V_if_eq (tgt := 33) dX6_replay_6 (by decide) (fun h6 => ?_) (fun h6 => ?_)
    · exact absurd (bIt c1) (by rw [h6]; decide)
    · refine V_iconst (v := 2) dX6_replay_9 (by decide) ?_
      refine V_ild2 dX6_replay_10 ?_
      refine V_cs2R lk_X6_189 cc_X6_isSetting dX6_replay_11 (c_X6_isSetting 2 d) ft_X6_replay_X6_isSetting rfl rfl (Nat.le_of_ble_eq_true rfl) ?_
      refine V_if_eq (tgt := 33) dX6_replay_14 (by decide) (fun h14 => ?_) (fun h14 => ?_)
      · exact absurd (bIt c2) (by rw [h14]; decide)
      · refine V_ild3 dX6_replay_17 ?_
        refine V_i2l dX6_replay_18 ?_
        refine V_lconst (v := 0) dX6_replay_19 (by decide) ?_
        refine V_ldc2 dX6_replay_20 mk_X6_152 ?_
        refine V_cs3R lk_X6_86 cc_X6_in dX6_replay_23 (c_X6_inI f 0 3) ft_X6_replay_X6_in rfl rfl (Nat.le_of_ble_eq_true rfl) ?_
        refine V_if_eq (tgt := 33) dX6_replay_26 (by decide) (fun h26 => ?_) (fun h26 => ?_)
        · exact absurd (bIt cf) (by rw [h26]; decide)
        · refine V_iconst (v := 0) dX6_replay_29 (by decide) ?_
          refine V_goto (tgt := 34) dX6_replay_30 (by decide) ?_
          refine V_cv1R lk_X6_93 cc_X6_refused dX6_replay_34 (by assumption) (c_X6_refused h0 0) ft_X6_replay_X6_refused rfl rfl (Nat.le_of_ble_eq_true rfl) ?_
          refine V_if_eq (tgt := 42) dX6_replay_37 (by decide) (fun h37 => ?_) (fun h37 => ?_)
          · refine V_ald0 dX6_replay_42 ?_
            refine V_ild1 dX6_replay_43 ?_
            refine V_ild2 dX6_replay_44 ?_
            refine V_cv2U lk_X6_200 cc_X6_play dX6_replay_45 (by assumption) (c_X6_play hm (hc.ref 0) hw hT (kdSet_1 c1) (kdSet_2 c2)) ft_X6_replay_X6_play rfl rfl (Nat.le_of_ble_eq_true rfl) ?_
            refine V_ald0 dX6_replay_48 ?_
            refine V_getR fd_X6_19 dX6_replay_49 (by assumption) (by assumption) rfl ?_
            refine V_bipush (v := 6) dX6_replay_52 (by decide) ?_
            refine V_ild3 dX6_replay_54 ?_
            refine V_iadd dX6_replay_55 ?_
            refine V_iald (j := 6 + j) dX6_replay_56 (by assumption) (by rw [ej]; exact nI_add 6 j) (by omega) ?_
            exact V_iret rfl dX6_replay_57 (by decide) (by decide) ⟨_, _, rfl, fun _ => by rw [xro_s, e6, ej], rfl, (hc.ref 0).tri (hc.2.2.2.1.1.play hw (kdSet_1 c1) (kdSet_2 c2) hT _ (Nat.le_refl _)), by rw [xro_n (by omega), xup_s, kd]; rfl, (Fm.up (by omega)).trans (Fm.ro (by omega))⟩
          · exact absurd (by decide) h37
  · have kd : kdRep w d f = 1 := if_neg c
    have bad : V E l Y_X6_replay (xQm E Y_X6_replay (xN (kdRep w d f) (aRep S.2.2.1 w d f (xLr S.2.2.1)) S m x n K G M L) xF) (x, n, K, G, M, L) (0, 0) 33 [some (.ref m), some (.int w), some (.int d), some (.int f)] [.ref m] := by
      refine V_iconst (v := 1) dX6_replay_33 (by decide) ?_
      refine V_cv1R lk_X6_93 cc_X6_refused dX6_replay_34 (by assumption) (c_X6_refused h0 1) ft_X6_replay_X6_refused rfl rfl (Nat.le_of_ble_eq_true rfl) ?_
      refine V_if_eq (tgt := 42) dX6_replay_37 (by decide) (fun h37 => ?_) (fun h37 => ?_)
      · exact absurd h37 (by decide)
      · refine V_iconst (v := 0) dX6_replay_40 (by decide) ?_
        exact V_iret rfl dX6_replay_41 (by decide) (by decide) (xN_b hc kd _)
    refine V_ald0 dX6_replay_0 ?_
    refine V_iconst (v := 1) dX6_replay_1 (by decide) ?_
    refine V_ild1 dX6_replay_2 ?_
    refine V_cs2R lk_X6_189 cc_X6_isSetting dX6_replay_3 (c_X6_isSetting 1 w) ft_X6_replay_X6_isSetting rfl rfl (Nat.le_of_ble_eq_true rfl) ?_
    refine V_if_eq (tgt := 33) dX6_replay_6 (by decide) (fun h6 => ?_) (fun h6 => ?_)
    · exact bad
    · refine V_iconst (v := 2) dX6_replay_9 (by decide) ?_
      refine V_ild2 dX6_replay_10 ?_
      refine V_cs2R lk_X6_189 cc_X6_isSetting dX6_replay_11 (c_X6_isSetting 2 d) ft_X6_replay_X6_isSetting rfl rfl (Nat.le_of_ble_eq_true rfl) ?_
      refine V_if_eq (tgt := 33) dX6_replay_14 (by decide) (fun h14 => ?_) (fun h14 => ?_)
      · exact bad
      · refine V_ild3 dX6_replay_17 ?_
        refine V_i2l dX6_replay_18 ?_
        refine V_lconst (v := 0) dX6_replay_19 (by decide) ?_
        refine V_ldc2 dX6_replay_20 mk_X6_152 ?_
        refine V_cs3R lk_X6_86 cc_X6_in dX6_replay_23 (c_X6_inI f 0 3) ft_X6_replay_X6_in rfl rfl (Nat.le_of_ble_eq_true rfl) ?_
        refine V_if_eq (tgt := 33) dX6_replay_26 (by decide) (fun h26 => ?_) (fun h26 => ?_)
        · exact bad
        · exact absurd (⟨Decidable.not_not.mp (fun q => h6 (bIf q)), Decidable.not_not.mp (fun q => h14 (bIf q)), kdO_0 (Decidable.not_not.mp (fun q => h26 (bIf q)))⟩ : kdSet 1 w = 0 ∧ kdSet 2 d = 0 ∧ kdO f 0 3 = 0) c
end C62

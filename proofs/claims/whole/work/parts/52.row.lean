/-! ===== the reference: record, drop, sums, a clean row ===== -/
def xLf (R : xRow) : Nat := (R 47).toNatClampNeg
section P52
variable {M M' : xMem} {L L' : xLng} {a b : Nat} {R R' Q : xRow} {T B : Nat}
theorem kI_109 {k : Nat} : (109 : Int32) + 2 * nI k = nI (109 + 2 * k) := by rw [show (2 : Int32) * nI k = nI (2 * k) from pk_mul 2 k]; exact nI_add 109 _
theorem kI_110 {k : Nat} : (109 : Int32) + 2 * nI k + 1 = nI (110 + 2 * k) := by rw [kI_109, nI_1]; congr 1; omega
theorem WFr.r3 (h : WFr R T B) : ¬ R 3 = 0 := by
  obtain ⟨d, d1, d2, hd⟩ := h.2.2.1
  rw [hd]
  intro q
  have := (nI_eq (b := 0) (by omega) (by decide)).mp q
  omega
theorem WFr.len (h : WFr R T B) : xLf R ≤ 60 ∧ R 47 = nI (xLf R) := by
  obtain ⟨lf, -, f2, e47⟩ := h.2.2.2.2.2.2.2.2.2.2.2.1
  have : xLf R = lf := by unfold xLf; rw [e47, nI_clamp (by omega)]
  rw [this]; exact ⟨f2, e47⟩
/-- the row, clean where a row is -/
def rCl (R : xRow) : xRow := cpR R 0 rCln 0 191
theorem rCl_lt {i : Nat} (h : i < 191) : rCl R i = rCln i := by unfold rCl cpR; rw [if_pos (by omega)]; congr 1; omega
end P52
section C52
variable {E : xEnv} {l : Launch} {x : Bool} {n : Nat} {K : xKnd} {G : xRef} {M : xMem} {L : xLng} {a T B : Nat}
theorem c_X6_record (h : xIs n K a 10 191) {lr : Nat} (hl : lr ≤ 40) (h108 : M a 108 = nI lr) (z : Int32) : Con E l Y_X6_record [.ref a, .int z] (x, n, K, G, M, L) (xR none (x, n, K, G, xro M a (rRc (M a) lr z), L)) xF := by
  generalize hR : M a = R at *
  have tail : ∀ (Rc : xRow) (j : Nat), j < 40 → Rc 108 = nI j → rRc R lr z = upR (upR (upR (upR Rc (109 + 2 * j) (Rc 0 - Rc 189)) (110 + 2 * j) z) 108 (nI (j + 1))) 189 (Rc 0) → V E l Y_X6_record (xQm E Y_X6_record (xR none (x, n, K, G, xro M a (rRc R lr z), L)) xF) (x, n, K, G, xro M a Rc, L) (0, 0) 28 [some (.ref a), some (.int z)] [] := by
    intro Rc j hj e1 e2
    refine V_ald0 dX6_record_28 ?_
    refine V_bipush (v := 109) dX6_record_29 (by decide) ?_
    refine V_iconst (v := 2) dX6_record_31 (by decide) ?_
    refine V_ald0 dX6_record_32 ?_
    refine V_bipush (v := 108) dX6_record_33 (by decide) ?_
    refine V_iald (j := 108) dX6_record_35 (by assumption) (by decide) (by decide) ?_
    rw [xro_s, e1]
    refine V_imul dX6_record_36 ?_
    refine V_iadd dX6_record_37 ?_
    refine V_ald0 dX6_record_38 ?_
    refine V_iconst (v := 0) dX6_record_39 (by decide) ?_
    refine V_iald (j := 0) dX6_record_40 (by assumption) (by decide) (by decide) ?_
    refine V_ald0 dX6_record_41 ?_
    refine V_sipush (v := 189) dX6_record_42 (by decide) ?_
    refine V_iald (j := 189) dX6_record_45 (by assumption) (by decide) (by decide) ?_
    refine V_isub dX6_record_46 ?_
    refine V_iast (j := 109 + 2 * j) dX6_record_47 (by assumption) kI_109 (by omega) ?_
    refine V_ald0 dX6_record_48 ?_
    refine V_bipush (v := 109) dX6_record_49 (by decide) ?_
    refine V_iconst (v := 2) dX6_record_51 (by decide) ?_
    refine V_ald0 dX6_record_52 ?_
    refine V_bipush (v := 108) dX6_record_53 (by decide) ?_
    refine V_iald (j := 108) dX6_record_55 (by assumption) (by decide) (by decide) ?_
    simp only [xup_r, xro_s, xro_ro]
    rw [upR_n (show (108 : Nat) ≠ 109 + 2 * j by omega), e1]
    refine V_imul dX6_record_56 ?_
    refine V_iadd dX6_record_57 ?_
    refine V_iconst (v := 1) dX6_record_58 (by decide) ?_
    refine V_iadd dX6_record_59 ?_
    refine V_ild1 dX6_record_60 ?_
    refine V_iast (j := 110 + 2 * j) dX6_record_61 (by assumption) kI_110 (by omega) ?_
    refine V_ald0 dX6_record_62 ?_
    refine V_bipush (v := 108) dX6_record_63 (by decide) ?_
    refine V_dup2 dX6_record_65 rfl rfl ?_
    refine V_iald (j := 108) dX6_record_66 (by assumption) (by decide) (by decide) ?_
    refine V_iconst (v := 1) dX6_record_67 (by decide) ?_
    refine V_iadd dX6_record_68 ?_
    refine V_iast (j := 108) dX6_record_69 (by assumption) (by decide) (by decide) ?_
    refine V_ald0 dX6_record_70 ?_
    refine V_sipush (v := 189) dX6_record_71 (by decide) ?_
    refine V_ald0 dX6_record_74 ?_
    refine V_iconst (v := 0) dX6_record_75 (by decide) ?_
    refine V_iald (j := 0) dX6_record_76 (by assumption) (by decide) (by decide) ?_
    refine V_iast (j := 189) dX6_record_77 (by assumption) (by decide) (by decide) ?_
    exact V_vret rfl dX6_record_78 (by decide) (by decide) ⟨rfl, by simp only [xup_r, xro_s, xro_ro]; rw [upR_n (show (108 : Nat) ≠ 110 + 2 * j by omega), upR_n (show (108 : Nat) ≠ 109 + 2 * j by omega), e1, nI_1, upR_n (show (0 : Nat) ≠ 108 by decide), upR_n (show (0 : Nat) ≠ 110 + 2 * j by omega), upR_n (show (0 : Nat) ≠ 109 + 2 * j by omega), e2]⟩
  refine Con.mk 0 mp_X6_record rfl (ls := [some (.ref a), some (.int z)]) rfl (Nat.le_of_ble_eq_true rfl) ?_
  refine V_ald0 dX6_record_0 ?_
  refine V_bipush (v := 108) dX6_record_1 (by decide) ?_
  refine V_iald (j := 108) dX6_record_3 (by assumption) (by decide) (by decide) ?_
  refine V_bipush (v := 40) dX6_record_4 (by decide) ?_
  refine V_icmp_ne (tgt := 28) dX6_record_6 (by decide) (fun h6 => ?_) (fun h6 => ?_)
  · first
    | (guard_hyp h6 : ¬ M a 108 = 40
       rw [hR, h108] at h6
       have n40 : lr ≠ 40 := fun q => h6 (by rw [q]; rfl)
       have := tail R lr (by omega) h108 (by unfold rRc; rw [if_neg n40])
       rwa [← hR, xro_id, hR] at this)
    | (simp only [xup_r, xro_s, xro_ro, hR]
       have c : ∀ i, ¬ (109 ≤ i ∧ i < 187) → cpR R 109 R 111 78 i = R i := fun i q => by unfold cpR; rw [if_neg (by omega)]
       refine tail _ 39 (by decide) (by rw [upR_s, c _ (by decide), h108]; decide) ?_
       unfold rRc
       rw [if_pos rfl, upR_n (show (0 : Nat) ≠ 108 by decide), upR_n (show (189 : Nat) ≠ 108 by decide), c 0 (by decide), c 189 (by decide), upR_comm (show (108 : Nat) ≠ 109 + 2 * 39 by decide), upR_comm (show (108 : Nat) ≠ 110 + 2 * 39 by decide), upR_same]
       rfl)
  · rw [hR, h108] at h6
    have l40 : lr = 40 := (nI_eq (b := 40) (by omega) (by decide)).mp h6
    subst l40
    refine V_ald0 dX6_record_9 ?_
    refine V_bipush (v := 111) dX6_record_10 (by decide) ?_
    refine V_ald0 dX6_record_12 ?_
    refine V_bipush (v := 109) dX6_record_13 (by decide) ?_
    refine V_bipush (v := 78) dX6_record_15 (by decide) ?_
    refine V_cs5U lk_X6_49 cc_X6_copy dX6_record_17 (c_X6_copy h h (s := 111) (d := 109) (m := 78) (by decide) (by decide) (Or.inr (by decide))) ft_X6_record_X6_copy rfl rfl (Nat.le_of_ble_eq_true rfl) ?_
    refine V_ald0 dX6_record_20 ?_
    refine V_bipush (v := 108) dX6_record_21 (by decide) ?_
    refine V_dup2 dX6_record_23 rfl rfl ?_
    refine V_iald (j := 108) dX6_record_24 (by assumption) (by decide) (by decide) ?_
    refine V_iconst (v := 1) dX6_record_25 (by decide) ?_
    refine V_isub dX6_record_26 ?_
    refine V_iast (j := 108) dX6_record_27 (by assumption) (by decide) (by decide) ?_
    first
    | (guard_hyp h6 : ¬ M a 108 = 40
       rw [hR, h108] at h6
       have n40 : lr ≠ 40 := fun q => h6 (by rw [q]; rfl)
       have := tail R lr (by omega) h108 (by unfold rRc; rw [if_neg n40])
       rwa [← hR, xro_id, hR] at this)
    | (simp only [xup_r, xro_s, xro_ro, hR]
       have c : ∀ i, ¬ (109 ≤ i ∧ i < 187) → cpR R 109 R 111 78 i = R i := fun i q => by unfold cpR; rw [if_neg (by omega)]
       refine tail _ 39 (by decide) (by rw [upR_s, c _ (by decide), h108]; decide) ?_
       unfold rRc
       rw [if_pos rfl, upR_n (show (0 : Nat) ≠ 108 by decide), upR_n (show (189 : Nat) ≠ 108 by decide), c 0 (by decide), c 189 (by decide), upR_comm (show (108 : Nat) ≠ 109 + 2 * 39 by decide), upR_comm (show (108 : Nat) ≠ 110 + 2 * 39 by decide), upR_same]
       rfl)
theorem c_X6_goDrop (h : xIs n K a 10 191) (hw : WFr (M a) T B) (t z : Int32) : Con E l Y_X6_goDrop [.ref a, .int t, .int z] (x, n, K, G, M, L) (xR (some (.int (nI (rDrF (M a) t z)))) (x, n, K, G, xro M a (rDr (M a) t z), L)) xF := by
  obtain ⟨l60, e47⟩ := hw.len
  obtain ⟨l40, e108⟩ := hw.rlen
  have r3 := hw.r3
  have ed : rDr (M a) t z = rDrM (M a) (xLf (M a)) (xLr (M a)) t z := rfl
  rw [ed]
  generalize xLf (M a) = lf at *
  generalize xLr (M a) = lr at *
  generalize hR : M a = R at *
  have hf : rDrF R t z < 4 := rFt_lt
  have ef : rFt (rGo R t) z = rDrF R t z := rfl
  refine Con.mk 1 mp_X6_goDrop rfl (ls := [some (.ref a), some (.int t), some (.int z), none]) rfl (Nat.le_of_ble_eq_true rfl) ?_
  refine V_ald0 dX6_goDrop_0 ?_
  refine V_ild1 dX6_goDrop_1 ?_
  refine V_cs2U lk_X6_72 cc_X6_goTicks dX6_goDrop_2 (c_X6_goTicks h t) ft_X6_goDrop_X6_goTicks rfl rfl (Nat.le_of_ble_eq_true rfl) ?_
  rw [hR]
  refine V_ald0 dX6_goDrop_5 ?_
  refine V_ild2 dX6_goDrop_6 ?_
  refine V_cs2R lk_X6_75 cc_X6_fall dX6_goDrop_7 (c_X6_fall h (by rw [xro_s, rGo_o (by decide)]; exact r3) z) ft_X6_goDrop_X6_fall rfl rfl (Nat.le_of_ble_eq_true rfl) ?_
  simp only [xro_s, xro_ro, ef]
  refine V_ist3 dX6_goDrop_10 rfl (by decide) ?_
  refine V_ald0 dX6_goDrop_11 ?_
  refine V_bipush (v := 6) dX6_goDrop_12 (by decide) ?_
  refine V_ild3 dX6_goDrop_14 ?_
  refine V_iadd dX6_goDrop_15 ?_
  refine V_dup2 dX6_goDrop_16 rfl rfl ?_
  refine V_iald (j := 6 + rDrF R t z) dX6_goDrop_17 (by assumption) (nI_add 6 _) (by omega) ?_
  refine V_iconst (v := 1) dX6_goDrop_18 (by decide) ?_
  refine V_iadd dX6_goDrop_19 ?_
  refine V_iast (j := 6 + rDrF R t z) dX6_goDrop_20 (by assumption) (nI_add 6 _) (by omega) ?_
  refine V_ald0 dX6_goDrop_21 ?_
  refine V_sipush (v := 190) dX6_goDrop_22 (by decide) ?_
  refine V_dup2 dX6_goDrop_25 rfl rfl ?_
  refine V_iald (j := 190) dX6_goDrop_26 (by assumption) (by decide) (by decide) ?_
  refine V_ild2 dX6_goDrop_27 ?_
  refine V_ild2 dX6_goDrop_28 ?_
  refine V_imul dX6_goDrop_29 ?_
  refine V_ild2 dX6_goDrop_30 ?_
  refine V_imul dX6_goDrop_31 ?_
  refine V_iadd dX6_goDrop_32 ?_
  refine V_iast (j := 190) dX6_goDrop_33 (by assumption) (by decide) (by decide) ?_
  simp only [xup_r, xro_s, xro_ro]
  refine V_ald0 dX6_goDrop_34 ?_
  refine V_ild3 dX6_goDrop_35 ?_
  refine V_cs2U lk_X6_78 cc_X6_trace dX6_goDrop_36 (c_X6_trace h l60 (by rw [xro_s, upR_n (by decide), upR_n (by omega), rFl_o (by decide), rGo_o (by decide)]; exact e47) _) ft_X6_goDrop_X6_trace rfl rfl (Nat.le_of_ble_eq_true rfl) ?_
  simp only [xro_s, xro_ro]
  refine V_ald0 dX6_goDrop_39 ?_
  refine V_ild2 dX6_goDrop_40 ?_
  refine V_cs2U lk_X6_81 cc_X6_record dX6_goDrop_41 (c_X6_record h l40 (by rw [xro_s, rTr_out (by decide) l60, upR_n (by decide), upR_n (by omega), rFl_o (by decide), rGo_o (by decide)]; exact e108) _) ft_X6_goDrop_X6_record rfl rfl (Nat.le_of_ble_eq_true rfl) ?_
  refine V_ild3 dX6_goDrop_44 ?_
  exact V_iret rfl dX6_goDrop_45 (by decide) (by decide) ⟨rfl, by simp only [xro_s, xro_ro]; rfl⟩
theorem c_X6_drops (h : xIs n K a 10 191) : Con E l Y_X6_drops [.ref a] (x, n, K, G, M, L) (xR (some (.int (rDrops (M a)))) (x, n, K, G, M, L)) xF := by
  refine Con.mk 0 mp_X6_drops rfl (ls := [some (.ref a)]) rfl (Nat.le_of_ble_eq_true rfl) ?_
  refine V_ald0 dX6_drops_0 ?_
  refine V_bipush (v := 6) dX6_drops_1 (by decide) ?_
  refine V_iald (j := 6) dX6_drops_3 (by assumption) (by decide) (by decide) ?_
  refine V_ald0 dX6_drops_4 ?_
  refine V_bipush (v := 7) dX6_drops_5 (by decide) ?_
  refine V_iald (j := 7) dX6_drops_7 (by assumption) (by decide) (by decide) ?_
  refine V_iadd dX6_drops_8 ?_
  refine V_ald0 dX6_drops_9 ?_
  refine V_bipush (v := 8) dX6_drops_10 (by decide) ?_
  refine V_iald (j := 8) dX6_drops_12 (by assumption) (by decide) (by decide) ?_
  refine V_iadd dX6_drops_13 ?_
  refine V_ald0 dX6_drops_14 ?_
  refine V_bipush (v := 9) dX6_drops_15 (by decide) ?_
  refine V_iald (j := 9) dX6_drops_17 (by assumption) (by decide) (by decide) ?_
  refine V_iadd dX6_drops_18 ?_
  exact V_iret rfl dX6_drops_19 (by decide) (by decide) ⟨rfl, rfl⟩
theorem c_X6_inBins (h : xIs n K a 10 191) {w : Nat} (hw : w < 3) : Con E l Y_X6_inBins [.ref a, .int (nI w)] (x, n, K, G, M, L) (xR (some (.int (rInB (M a) w))) (x, n, K, G, M, L)) xF := by
  unfold rInB
  refine Con.mk 2 mp_X6_inBins rfl (ls := [some (.ref a), some (.int (nI w)), none, none]) rfl (Nat.le_of_ble_eq_true rfl) ?_
  obtain ⟨N, hN⟩ : ∃ N, N = 8 := ⟨8, rfl⟩
  rw [show kSum (fun k => M a (23 + 3 * k + w)) 8 = kSum (fun k => M a (23 + 3 * k + w)) N by rw [hN]]
  have loop : ∀ (r k : Nat), r + k = N → V E l Y_X6_inBins (xQm E Y_X6_inBins (xR (some (.int (kSum (fun k => M a (23 + 3 * k + w)) N))) (x, n, K, G, M, L)) xF) (x, n, K, G, M, L) (0, 0) 4 [some (.ref a), some (.int (nI w)), some (.int (kSum (fun k => M a (23 + 3 * k + w)) k)), some (.int (nI k))] [] := by
    intro r
    induction r with
    | zero =>
      intro k hk
      have e : k = N := by omega
      subst e
      refine V_ild3 dX6_inBins_4 ?_
      refine V_bipush (v := 8) dX6_inBins_5 (by decide) ?_
      refine V_icmp_ge (tgt := 29) dX6_inBins_7 (by decide) (fun h7 => ?_) (fun h7 => ?_)
      · refine V_ild2 dX6_inBins_29 ?_
        exact V_iret rfl dX6_inBins_30 (by decide) (by decide) ⟨rfl, rfl⟩
      · exact absurd h7 (nI_nlt (b := 8) (by omega) (by omega))
    | succ r ih =>
      intro k hk
      refine V_ild3 dX6_inBins_4 ?_
      refine V_bipush (v := 8) dX6_inBins_5 (by decide) ?_
      refine V_icmp_ge (tgt := 29) dX6_inBins_7 (by decide) (fun h7 => ?_) (fun h7 => ?_)
      · exact absurd (nI_lt (b := 8) (by omega) (by decide)) h7
      · refine V_ild2 dX6_inBins_10 ?_
        refine V_ald0 dX6_inBins_11 ?_
        refine V_bipush (v := 23) dX6_inBins_12 (by decide) ?_
        refine V_iconst (v := 3) dX6_inBins_14 (by decide) ?_
        refine V_ild3 dX6_inBins_15 ?_
        refine V_imul dX6_inBins_16 ?_
        refine V_iadd dX6_inBins_17 ?_
        refine V_ild1 dX6_inBins_18 ?_
        refine V_iadd dX6_inBins_19 ?_
        refine V_iald (j := 23 + 3 * k + w) dX6_inBins_20 (by assumption) (by rw [kI_23, nI_add]) (by omega) ?_
        refine V_iadd dX6_inBins_21 ?_
        refine V_ist2 dX6_inBins_22 rfl (by decide) ?_
        refine V_inc3 dX6_inBins_23 rfl (nI_1 k) ?_
        refine V_goto (tgt := 4) dX6_inBins_26 (by decide) ?_
        exact ih (k + 1) (by omega)
  refine V_iconst (v := 0) dX6_inBins_0 (by decide) ?_
  refine V_ist2 dX6_inBins_1 rfl (by decide) ?_
  refine V_iconst (v := 0) dX6_inBins_2 (by decide) ?_
  refine V_ist3 dX6_inBins_3 rfl (by decide) ?_
  exact loop N 0 (by omega)
theorem c_X6_low (h : xIs n K a 10 191) {k : Nat} (hk : k < 8) : Con E l Y_X6_low [.ref a, .int (nI k)] (x, n, K, G, M, L) (xR (some (.int (rLow (M a) k))) (x, n, K, G, M, L)) xF := by
  have z : nI k = 0 ↔ k = 0 := nI_eq (b := 0) (by omega) (by decide)
  refine Con.mk 0 mp_X6_low rfl (ls := [some (.ref a), some (.int (nI k))]) rfl (Nat.le_of_ble_eq_true rfl) ?_
  refine V_ild1 dX6_low_0 ?_
  refine V_if_ne (tgt := 8) dX6_low_1 (by decide) (fun h1 => ?_) (fun h1 => ?_)
  · rw [z] at h1
    refine V_ald0 dX6_low_8 ?_
    refine V_bipush (v := 16) dX6_low_9 (by decide) ?_
    refine V_ild1 dX6_low_11 ?_
    refine V_iadd dX6_low_12 ?_
    refine V_iconst (v := 1) dX6_low_13 (by decide) ?_
    refine V_isub dX6_low_14 ?_
    refine V_iald (j := 15 + k) dX6_low_15 (by assumption) (by obtain ⟨j, rfl⟩ : ∃ j, k = j + 1 := ⟨k - 1, by omega⟩; rw [kI_16]; congr 1; omega) (by omega) ?_
    exact V_iret rfl dX6_low_16 (by decide) (by decide) (by
  refine ⟨?_, rfl⟩
  unfold rLow
  first
  | (guard_hyp h1 : k = 0; rw [if_pos h1])
  | (guard_hyp h1 : ¬ k = 0; rw [if_neg h1]))
  · rw [z] at h1
    refine V_iconst (v := 0) dX6_low_4 (by decide) ?_
    refine V_goto (tgt := 16) dX6_low_5 (by decide) ?_
    exact V_iret rfl dX6_low_16 (by decide) (by decide) (by
  refine ⟨?_, rfl⟩
  unfold rLow
  first
  | (guard_hyp h1 : k = 0; rw [if_pos h1])
  | (guard_hyp h1 : ¬ k = 0; rw [if_neg h1]))
theorem c_X6_high (h : xIs n K a 10 191) {k : Nat} (hk : k < 8) : Con E l Y_X6_high [.ref a, .int (nI k)] (x, n, K, G, M, L) (xR (some (.int (rHigh (M a) k))) (x, n, K, G, M, L)) xF := by
  have z : nI k = 7 ↔ k = 7 := nI_eq (b := 7) (by omega) (by decide)
  refine Con.mk 0 mp_X6_high rfl (ls := [some (.ref a), some (.int (nI k))]) rfl (Nat.le_of_ble_eq_true rfl) ?_
  refine V_ild1 dX6_high_0 ?_
  refine V_bipush (v := 7) dX6_high_1 (by decide) ?_
  refine V_icmp_ne (tgt := 12) dX6_high_3 (by decide) (fun h3 => ?_) (fun h3 => ?_)
  · rw [z] at h3
    refine V_ald0 dX6_high_12 ?_
    refine V_bipush (v := 16) dX6_high_13 (by decide) ?_
    refine V_ild1 dX6_high_15 ?_
    refine V_iadd dX6_high_16 ?_
    refine V_iald (j := 16 + k) dX6_high_17 (by assumption) (nI_add 16 _) (by omega) ?_
    refine V_iconst (v := 1) dX6_high_18 (by decide) ?_
    refine V_isub dX6_high_19 ?_
    exact V_iret rfl dX6_high_20 (by decide) (by decide) (by
  refine ⟨?_, rfl⟩
  unfold rHigh
  first
  | (guard_hyp h3 : k = 7; rw [if_pos h3])
  | (guard_hyp h3 : ¬ k = 7; rw [if_neg h3]))
  · rw [z] at h3
    refine V_sipush (v := 5000) dX6_high_6 (by decide) ?_
    refine V_goto (tgt := 20) dX6_high_9 (by decide) ?_
    exact V_iret rfl dX6_high_20 (by decide) (by decide) (by
  refine ⟨?_, rfl⟩
  unfold rHigh
  first
  | (guard_hyp h3 : k = 7; rw [if_pos h3])
  | (guard_hyp h3 : ¬ k = 7; rw [if_neg h3]))
theorem c_X6_firstBorder {q : xS} {k : Nat} (hk : k < 7) : Con E l Y_X6_firstBorder [.int (nI (k + 1))] q (xR (some (.int (rCln (16 + k)))) q) xF := by
  have hc : k = 0 ∨ k = 1 ∨ k = 2 ∨ k = 3 ∨ k = 4 ∨ k = 5 ∨ k = 6 := by omega
  have e : ∀ v : Nat, v < 100 → (nI (k + 1) = nI v ↔ k + 1 = v) := fun v hv => nI_eq (by omega) (by omega)
  refine Con.mk 0 mp_X6_firstBorder rfl (ls := [some (.int (nI (k + 1)))]) rfl (Nat.le_of_ble_eq_true rfl) ?_
  rcases hc with rfl | rfl | rfl | rfl | rfl | rfl | rfl
  all_goals
    refine V_ild0 dX6_firstBorder_0 ?_
    refine V_iconst (v := 1) dX6_firstBorder_1 (by decide) ?_
    refine V_icmp_ne (tgt := 10) dX6_firstBorder_2 (by decide) (fun h2 => ?_) (fun h2 => ?_)
    · refine V_ild0 dX6_firstBorder_10 ?_
      refine V_iconst (v := 2) dX6_firstBorder_11 (by decide) ?_
      refine V_icmp_ne (tgt := 21) dX6_firstBorder_12 (by decide) (fun h12 => ?_) (fun h12 => ?_)
      · refine V_ild0 dX6_firstBorder_21 ?_
        refine V_iconst (v := 3) dX6_firstBorder_22 (by decide) ?_
        refine V_icmp_ne (tgt := 32) dX6_firstBorder_23 (by decide) (fun h23 => ?_) (fun h23 => ?_)
        · refine V_ild0 dX6_firstBorder_32 ?_
          refine V_iconst (v := 4) dX6_firstBorder_33 (by decide) ?_
          refine V_icmp_ne (tgt := 43) dX6_firstBorder_34 (by decide) (fun h34 => ?_) (fun h34 => ?_)
          · refine V_ild0 dX6_firstBorder_43 ?_
            refine V_iconst (v := 5) dX6_firstBorder_44 (by decide) ?_
            refine V_icmp_ne (tgt := 54) dX6_firstBorder_45 (by decide) (fun h45 => ?_) (fun h45 => ?_)
            · refine V_ild0 dX6_firstBorder_54 ?_
              refine V_bipush (v := 6) dX6_firstBorder_55 (by decide) ?_
              refine V_icmp_ne (tgt := 66) dX6_firstBorder_57 (by decide) (fun h57 => ?_) (fun h57 => ?_)
              · refine V_sipush (v := 3600) dX6_firstBorder_66 (by decide) ?_
                exact V_iret rfl dX6_firstBorder_69 (by decide) (by decide) (by
  first
  | exact ⟨rfl, rfl⟩
  | exact absurd h2 (by decide)
  | exact absurd h12 (by decide)
  | exact absurd h23 (by decide)
  | exact absurd h34 (by decide)
  | exact absurd h45 (by decide)
  | exact absurd h57 (by decide)
  | exact absurd rfl h2
  | exact absurd rfl h12
  | exact absurd rfl h23
  | exact absurd rfl h34
  | exact absurd rfl h45
  | exact absurd rfl h57)
              · refine V_sipush (v := 2500) dX6_firstBorder_60 (by decide) ?_
                refine V_goto (tgt := 69) dX6_firstBorder_63 (by decide) ?_
                exact V_iret rfl dX6_firstBorder_69 (by decide) (by decide) (by
  first
  | exact ⟨rfl, rfl⟩
  | exact absurd h2 (by decide)
  | exact absurd h12 (by decide)
  | exact absurd h23 (by decide)
  | exact absurd h34 (by decide)
  | exact absurd h45 (by decide)
  | exact absurd h57 (by decide)
  | exact absurd rfl h2
  | exact absurd rfl h12
  | exact absurd rfl h23
  | exact absurd rfl h34
  | exact absurd rfl h45
  | exact absurd rfl h57)
            · refine V_sipush (v := 1600) dX6_firstBorder_48 (by decide) ?_
              refine V_goto (tgt := 69) dX6_firstBorder_51 (by decide) ?_
              exact V_iret rfl dX6_firstBorder_69 (by decide) (by decide) (by
  first
  | exact ⟨rfl, rfl⟩
  | exact absurd h2 (by decide)
  | exact absurd h12 (by decide)
  | exact absurd h23 (by decide)
  | exact absurd h34 (by decide)
  | exact absurd h45 (by decide)
  | exact absurd h57 (by decide)
  | exact absurd rfl h2
  | exact absurd rfl h12
  | exact absurd rfl h23
  | exact absurd rfl h34
  | exact absurd rfl h45
  | exact absurd rfl h57)
          · refine V_sipush (v := 900) dX6_firstBorder_37 (by decide) ?_
            refine V_goto (tgt := 69) dX6_firstBorder_40 (by decide) ?_
            exact V_iret rfl dX6_firstBorder_69 (by decide) (by decide) (by
  first
  | exact ⟨rfl, rfl⟩
  | exact absurd h2 (by decide)
  | exact absurd h12 (by decide)
  | exact absurd h23 (by decide)
  | exact absurd h34 (by decide)
  | exact absurd h45 (by decide)
  | exact absurd h57 (by decide)
  | exact absurd rfl h2
  | exact absurd rfl h12
  | exact absurd rfl h23
  | exact absurd rfl h34
  | exact absurd rfl h45
  | exact absurd rfl h57)
        · refine V_sipush (v := 400) dX6_firstBorder_26 (by decide) ?_
          refine V_goto (tgt := 69) dX6_firstBorder_29 (by decide) ?_
          exact V_iret rfl dX6_firstBorder_69 (by decide) (by decide) (by
  first
  | exact ⟨rfl, rfl⟩
  | exact absurd h2 (by decide)
  | exact absurd h12 (by decide)
  | exact absurd h23 (by decide)
  | exact absurd h34 (by decide)
  | exact absurd h45 (by decide)
  | exact absurd h57 (by decide)
  | exact absurd rfl h2
  | exact absurd rfl h12
  | exact absurd rfl h23
  | exact absurd rfl h34
  | exact absurd rfl h45
  | exact absurd rfl h57)
      · refine V_sipush (v := 225) dX6_firstBorder_15 (by decide) ?_
        refine V_goto (tgt := 69) dX6_firstBorder_18 (by decide) ?_
        exact V_iret rfl dX6_firstBorder_69 (by decide) (by decide) (by
  first
  | exact ⟨rfl, rfl⟩
  | exact absurd h2 (by decide)
  | exact absurd h12 (by decide)
  | exact absurd h23 (by decide)
  | exact absurd h34 (by decide)
  | exact absurd h45 (by decide)
  | exact absurd h57 (by decide)
  | exact absurd rfl h2
  | exact absurd rfl h12
  | exact absurd rfl h23
  | exact absurd rfl h34
  | exact absurd rfl h45
  | exact absurd rfl h57)
    · refine V_bipush (v := 100) dX6_firstBorder_5 (by decide) ?_
      refine V_goto (tgt := 69) dX6_firstBorder_7 (by decide) ?_
      exact V_iret rfl dX6_firstBorder_69 (by decide) (by decide) (by
  first
  | exact ⟨rfl, rfl⟩
  | exact absurd h2 (by decide)
  | exact absurd h12 (by decide)
  | exact absurd h23 (by decide)
  | exact absurd h34 (by decide)
  | exact absurd h45 (by decide)
  | exact absurd h57 (by decide)
  | exact absurd rfl h2
  | exact absurd rfl h12
  | exact absurd rfl h23
  | exact absurd rfl h34
  | exact absurd rfl h45
  | exact absurd rfl h57)
end C52

/-! ===== the reference: a fall on a row ===== -/
section P51
variable {M M' : xMem} {L L' : xLng} {a b : Nat} {R R' Q : xRow} {T B : Nat}
theorem rFx_3 {s : Int32} (h : rStr R s < R 4) : rFx R s = 3 := if_pos h
theorem rFx_2 {s : Int32} (h : ¬ rStr R s < R 4) (h2 : rStr R s < rLev R (R 0)) : rFx R s = 2 := by unfold rFx; rw [if_neg h, if_pos h2]
theorem rFx_0 {s : Int32} (h : ¬ rStr R s < R 4) (h2 : ¬ rStr R s < rLev R (R 0)) : rFx R s = 0 := by unfold rFx; rw [if_neg h, if_neg h2]
theorem rFlx_no {s : Int32} (h : rFx R s = 3 ∨ rFx R s = 2) : rFlx R s = R := by unfold rFlx; rw [if_neg (by omega)]
theorem rFlx_0 {s : Int32} (h : rFx R s = 0) : rFlx R s = rOpn R (rStr R s + rLev R (R 0) / 2) := by unfold rFlx; rw [if_pos h]
theorem rFt_m {s : Int32} (h : R 13 = 1 ∧ R 0 - R 11 < R 2) : rFt R s = 1 := if_pos h
theorem rFl_m {s : Int32} (h : R 13 = 1 ∧ R 0 - R 11 < R 2) : rFl R s = upR (rMuch R (R 12 + rStr R s)) 14 (rMuch R (R 12 + rStr R s) 14 + 1) := by unfold rFl; rw [if_pos h]
end P51
section C51
variable {E : xEnv} {l : Launch} {x : Bool} {n : Nat} {K : xKnd} {G : xRef} {M : xMem} {L : xLng} {a : Nat}
theorem c_X6_fall (h : xIs n K a 10 191) (h3 : ¬ M a 3 = 0) (s : Int32) : Con E l Y_X6_fall [.ref a, .int s] (x, n, K, G, M, L) (xR (some (.int (nI (rFt (M a) s)))) (x, n, K, G, xro M a (rFl (M a) s), L)) xF := by
  generalize hR : M a = R at *
  have tail : ∀ (Rc : xRow), ¬ Rc 3 = 0 → rFt R s = rFx Rc s → rFl R s = rFlx Rc s → V E l Y_X6_fall (xQm E Y_X6_fall (xR (some (.int (nI (rFt R s)))) (x, n, K, G, xro M a (rFl R s), L)) xF) (x, n, K, G, xro M a Rc, L) (0, 0) 63 [some (.ref a), some (.int s), some (.int (rStr Rc s)), none] [] := by
    intro Rc h3 e1 e2
    rw [e1, e2]
    refine V_ild2 dX6_fall_63 ?_
    refine V_ald0 dX6_fall_64 ?_
    refine V_iconst (v := 4) dX6_fall_65 (by decide) ?_
    refine V_iald (j := 4) dX6_fall_66 (by assumption) (by decide) (by decide) ?_
    rw [xro_s]
    refine V_icmp_ge (tgt := 72) dX6_fall_67 (by decide) (fun h67 => ?_) (fun h67 => ?_)
    · refine V_ald0 dX6_fall_72 ?_
      refine V_cs1R lk_X6_68 cc_X6_level dX6_fall_73 (c_X6_level h (by rw [xro_s]; exact h3)) ft_X6_fall_X6_level rfl rfl (Nat.le_of_ble_eq_true rfl) ?_
      rw [xro_s]
      refine V_ist3 dX6_fall_76 rfl (by decide) ?_
      refine V_ild3 dX6_fall_77 ?_
      refine V_ild2 dX6_fall_78 ?_
      refine V_icmp_le (tgt := 84) dX6_fall_79 (by decide) (fun h79 => ?_) (fun h79 => ?_)
      · refine V_ald0 dX6_fall_84 ?_
        refine V_bipush (v := 13) dX6_fall_85 (by decide) ?_
        refine V_iconst (v := 1) dX6_fall_87 (by decide) ?_
        refine V_iast (j := 13) dX6_fall_88 (by assumption) (by decide) (by decide) ?_
        refine V_ald0 dX6_fall_89 ?_
        refine V_bipush (v := 14) dX6_fall_90 (by decide) ?_
        refine V_iconst (v := 1) dX6_fall_92 (by decide) ?_
        refine V_iast (j := 14) dX6_fall_93 (by assumption) (by decide) (by decide) ?_
        refine V_ald0 dX6_fall_94 ?_
        refine V_bipush (v := 15) dX6_fall_95 (by decide) ?_
        refine V_iconst (v := 0) dX6_fall_97 (by decide) ?_
        refine V_iast (j := 15) dX6_fall_98 (by assumption) (by decide) (by decide) ?_
        refine V_ald0 dX6_fall_99 ?_
        refine V_bipush (v := 10) dX6_fall_100 (by decide) ?_
        refine V_iconst (v := 1) dX6_fall_102 (by decide) ?_
        refine V_iast (j := 10) dX6_fall_103 (by assumption) (by decide) (by decide) ?_
        refine V_ald0 dX6_fall_104 ?_
        refine V_bipush (v := 11) dX6_fall_105 (by decide) ?_
        refine V_ald0 dX6_fall_107 ?_
        refine V_iconst (v := 0) dX6_fall_108 (by decide) ?_
        refine V_iald (j := 0) dX6_fall_109 (by assumption) (by decide) (by decide) ?_
        refine V_iast (j := 11) dX6_fall_110 (by assumption) (by decide) (by decide) ?_
        simp only [xup_r, xro_s, xro_ro]
        refine V_ald0 dX6_fall_111 ?_
        refine V_ild2 dX6_fall_112 ?_
        refine V_ild3 dX6_fall_113 ?_
        refine V_iconst (v := 2) dX6_fall_114 (by decide) ?_
        refine V_idiv dX6_fall_115 (by decide) ?_
        refine V_iadd dX6_fall_116 ?_
        refine V_cs2U lk_X6_64 cc_X6_setMuch dX6_fall_117 (c_X6_setMuch h _) ft_X6_fall_X6_setMuch rfl rfl (Nat.le_of_ble_eq_true rfl) ?_
        refine V_iconst (v := 0) dX6_fall_120 (by decide) ?_
        exact V_iret rfl dX6_fall_121 (by decide) (by decide) ⟨by rw [rFx_0 h67 h79]; rfl, by simp only [xro_s, xro_ro]; rw [rFlx_0 (rFx_0 h67 h79)]; unfold rOpn; rw [upR_n (show (0 : Nat) ≠ 10 by decide), upR_n (show (0 : Nat) ≠ 15 by decide), upR_n (show (0 : Nat) ≠ 14 by decide), upR_n (show (0 : Nat) ≠ 13 by decide)]⟩
      · refine V_iconst (v := 2) dX6_fall_82 (by decide) ?_
        exact V_iret rfl dX6_fall_83 (by decide) (by decide) ⟨by rw [rFx_2 h67 h79]; rfl, by rw [rFlx_no (Or.inr (rFx_2 h67 h79))]⟩
    · refine V_iconst (v := 3) dX6_fall_70 (by decide) ?_
      exact V_iret rfl dX6_fall_71 (by decide) (by decide) ⟨by rw [rFx_3 h67]; rfl, by rw [rFlx_no (Or.inl (rFx_3 h67))]⟩
  have e0 : s * s * (100 - 2 * R 1) / 100 = rStr R s := rfl
  refine Con.mk 2 mp_X6_fall rfl (ls := [some (.ref a), some (.int s), none, none]) rfl (Nat.le_of_ble_eq_true rfl) ?_
  refine V_ild1 dX6_fall_0 ?_
  refine V_ild1 dX6_fall_1 ?_
  refine V_imul dX6_fall_2 ?_
  refine V_bipush (v := 100) dX6_fall_3 (by decide) ?_
  refine V_iconst (v := 2) dX6_fall_5 (by decide) ?_
  refine V_ald0 dX6_fall_6 ?_
  refine V_iconst (v := 1) dX6_fall_7 (by decide) ?_
  refine V_iald (j := 1) dX6_fall_8 (by assumption) (by decide) (by decide) ?_
  refine V_imul dX6_fall_9 ?_
  refine V_isub dX6_fall_10 ?_
  refine V_imul dX6_fall_11 ?_
  refine V_bipush (v := 100) dX6_fall_12 (by decide) ?_
  refine V_idiv dX6_fall_14 (by decide) ?_
  rw [hR, e0]
  refine V_ist2 dX6_fall_15 rfl (by decide) ?_
  refine V_ald0 dX6_fall_16 ?_
  refine V_bipush (v := 13) dX6_fall_17 (by decide) ?_
  refine V_iald (j := 13) dX6_fall_19 (by assumption) (by decide) (by decide) ?_
  refine V_iconst (v := 1) dX6_fall_20 (by decide) ?_
  refine V_icmp_ne (tgt := 51) dX6_fall_21 (by decide) (fun h21 => ?_) (fun h21 => ?_)
  · skip
    refine V_ald0 dX6_fall_51 ?_
    refine V_bipush (v := 13) dX6_fall_52 (by decide) ?_
    refine V_iald (j := 13) dX6_fall_54 (by assumption) (by decide) (by decide) ?_
    refine V_iconst (v := 1) dX6_fall_55 (by decide) ?_
    refine V_icmp_ne (tgt := 63) dX6_fall_56 (by decide) (fun h56 => ?_) (fun h56 => ?_)
    · first
      | (guard_hyp h56 : ¬ M a 13 = 1
         rw [hR] at h56
         obtain ⟨f1, f2⟩ := rFl_no (R := R) (s := s) (fun q => h56 q.1)
         rw [if_neg h56] at f2
         have := tail R h3 f1 f2
         rwa [← hR, xro_id, hR] at this)
      | (guard_hyp h56 : M a 13 = 1
         rw [hR] at h56
         have nm : ¬ (R 13 = 1 ∧ R 0 - R 11 < R 2) := by
           rintro ⟨q1, q2⟩
           first
           | exact absurd q1 (by rw [← hR]; exact h21)
           | exact absurd q2 (bI0.mp (by rw [← hR]; exact h28))
           | exact absurd q2 (bI0.mp h28)
         obtain ⟨f1, f2⟩ := rFl_no (R := R) (s := s) nm
         rw [if_pos h56] at f2
         have := tail (rClose R) (by rw [rClose_lo (by decide)]; exact h3) (f1.trans rFx_close.symm) f2
         rw [rStr_close] at this
         rw [hR]
         exact this)
    · refine V_ald0 dX6_fall_59 ?_
      refine V_cs1U lk_X6_61 cc_X6_close dX6_fall_60 (c_X6_close h) ft_X6_fall_X6_close rfl rfl (Nat.le_of_ble_eq_true rfl) ?_
      first
      | (guard_hyp h56 : ¬ M a 13 = 1
         rw [hR] at h56
         obtain ⟨f1, f2⟩ := rFl_no (R := R) (s := s) (fun q => h56 q.1)
         rw [if_neg h56] at f2
         have := tail R h3 f1 f2
         rwa [← hR, xro_id, hR] at this)
      | (guard_hyp h56 : M a 13 = 1
         rw [hR] at h56
         have nm : ¬ (R 13 = 1 ∧ R 0 - R 11 < R 2) := by
           rintro ⟨q1, q2⟩
           first
           | exact absurd q1 (by rw [← hR]; exact h21)
           | exact absurd q2 (bI0.mp (by rw [← hR]; exact h28))
           | exact absurd q2 (bI0.mp h28)
         obtain ⟨f1, f2⟩ := rFl_no (R := R) (s := s) nm
         rw [if_pos h56] at f2
         have := tail (rClose R) (by rw [rClose_lo (by decide)]; exact h3) (f1.trans rFx_close.symm) f2
         rw [rStr_close] at this
         rw [hR]
         exact this)
  · rw [hR] at h21
    refine V_ald0 dX6_fall_24 ?_
    refine V_cs1R lk_X6_57 cc_X6_isInWindow dX6_fall_25 (c_X6_isInWindow h) ft_X6_fall_X6_isInWindow rfl rfl (Nat.le_of_ble_eq_true rfl) ?_
    rw [hR]
    refine V_if_eq (tgt := 51) dX6_fall_28 (by decide) (fun h28 => ?_) (fun h28 => ?_)
    · skip
      refine V_ald0 dX6_fall_51 ?_
      refine V_bipush (v := 13) dX6_fall_52 (by decide) ?_
      refine V_iald (j := 13) dX6_fall_54 (by assumption) (by decide) (by decide) ?_
      refine V_iconst (v := 1) dX6_fall_55 (by decide) ?_
      refine V_icmp_ne (tgt := 63) dX6_fall_56 (by decide) (fun h56 => ?_) (fun h56 => ?_)
      · first
        | (guard_hyp h56 : ¬ M a 13 = 1
           rw [hR] at h56
           obtain ⟨f1, f2⟩ := rFl_no (R := R) (s := s) (fun q => h56 q.1)
           rw [if_neg h56] at f2
           have := tail R h3 f1 f2
           rwa [← hR, xro_id, hR] at this)
        | (guard_hyp h56 : M a 13 = 1
           rw [hR] at h56
           have nm : ¬ (R 13 = 1 ∧ R 0 - R 11 < R 2) := by
             rintro ⟨q1, q2⟩
             first
             | exact absurd q1 (by rw [← hR]; exact h21)
             | exact absurd q2 (bI0.mp (by rw [← hR]; exact h28))
             | exact absurd q2 (bI0.mp h28)
           obtain ⟨f1, f2⟩ := rFl_no (R := R) (s := s) nm
           rw [if_pos h56] at f2
           have := tail (rClose R) (by rw [rClose_lo (by decide)]; exact h3) (f1.trans rFx_close.symm) f2
           rw [rStr_close] at this
           rw [hR]
           exact this)
      · refine V_ald0 dX6_fall_59 ?_
        refine V_cs1U lk_X6_61 cc_X6_close dX6_fall_60 (c_X6_close h) ft_X6_fall_X6_close rfl rfl (Nat.le_of_ble_eq_true rfl) ?_
        first
        | (guard_hyp h56 : ¬ M a 13 = 1
           rw [hR] at h56
           obtain ⟨f1, f2⟩ := rFl_no (R := R) (s := s) (fun q => h56 q.1)
           rw [if_neg h56] at f2
           have := tail R h3 f1 f2
           rwa [← hR, xro_id, hR] at this)
        | (guard_hyp h56 : M a 13 = 1
           rw [hR] at h56
           have nm : ¬ (R 13 = 1 ∧ R 0 - R 11 < R 2) := by
             rintro ⟨q1, q2⟩
             first
             | exact absurd q1 (by rw [← hR]; exact h21)
             | exact absurd q2 (bI0.mp (by rw [← hR]; exact h28))
             | exact absurd q2 (bI0.mp h28)
           obtain ⟨f1, f2⟩ := rFl_no (R := R) (s := s) nm
           rw [if_pos h56] at f2
           have := tail (rClose R) (by rw [rClose_lo (by decide)]; exact h3) (f1.trans rFx_close.symm) f2
           rw [rStr_close] at this
           rw [hR]
           exact this)
    · rw [bI0, Decidable.not_not] at h28
      refine V_ald0 dX6_fall_31 ?_
      refine V_ald0 dX6_fall_32 ?_
      refine V_bipush (v := 12) dX6_fall_33 (by decide) ?_
      refine V_iald (j := 12) dX6_fall_35 (by assumption) (by decide) (by decide) ?_
      refine V_ild2 dX6_fall_36 ?_
      refine V_iadd dX6_fall_37 ?_
      refine V_cs2U lk_X6_64 cc_X6_setMuch dX6_fall_38 (c_X6_setMuch h _) ft_X6_fall_X6_setMuch rfl rfl (Nat.le_of_ble_eq_true rfl) ?_
      refine V_ald0 dX6_fall_41 ?_
      refine V_bipush (v := 14) dX6_fall_42 (by decide) ?_
      refine V_dup2 dX6_fall_44 rfl rfl ?_
      refine V_iald (j := 14) dX6_fall_45 (by assumption) (by decide) (by decide) ?_
      refine V_iconst (v := 1) dX6_fall_46 (by decide) ?_
      refine V_iadd dX6_fall_47 ?_
      refine V_iast (j := 14) dX6_fall_48 (by assumption) (by decide) (by decide) ?_
      refine V_iconst (v := 1) dX6_fall_49 (by decide) ?_
      exact V_iret rfl dX6_fall_50 (by decide) (by decide) ⟨by rw [rFt_m ⟨h21, h28⟩]; rfl, by simp only [xup_r, xro_s, xro_ro, hR]; rw [rFl_m ⟨h21, h28⟩]⟩
theorem c_X6_copy {b N N2 : Nat} (ha : xIs n K a 10 N) (hb : xIs n K b 10 N2) {s d m : Nat} (hs : s + m ≤ N) (hd : d + m ≤ N2) (hab : a ≠ b ∨ d < s) : Con E l Y_X6_copy [.ref a, .int (nI s), .ref b, .int (nI d), .int (nI m)] (x, n, K, G, M, L) (xR none (x, n, K, G, xro M b (cpR (M b) d (M a) s m), L)) xF := by
  have hN := ha.2.2.2
  have hN2 := hb.2.2.2
  refine Con.mk 1 mp_X6_copy rfl (ls := [some (.ref a), some (.int (nI s)), some (.ref b), some (.int (nI d)), some (.int (nI m)), none]) rfl (Nat.le_of_ble_eq_true rfl) ?_
  have loop : ∀ (r k : Nat), r + k = m → V E l Y_X6_copy (xQm E Y_X6_copy (xR none (x, n, K, G, xro M b (cpR (M b) d (M a) s m), L)) xF) (x, n, K, G, xro M b (cpR (M b) d (M a) s k), L) (0, 0) 3 [some (.ref a), some (.int (nI s)), some (.ref b), some (.int (nI d)), some (.int (nI m)), some (.int (nI k))] [] := by
    intro r
    induction r with
    | zero =>
      intro k hk
      have e : k = m := by omega
      subst e
      refine V_ild5 dX6_copy_3 ?_
      refine V_ild4 dX6_copy_5 ?_
      refine V_icmp_ge (tgt := 28) dX6_copy_7 (by decide) (fun h7 => ?_) (fun h7 => ?_)
      · exact V_vret rfl dX6_copy_28 (by decide) (by decide) ⟨rfl, rfl⟩
      · exact absurd h7 (nI_nlt (Nat.le_refl k) (by omega))
    | succ r ih =>
      intro k hk
      have rd : xro M b (cpR (M b) d (M a) s k) a (s + k) = M a (s + k) := by
        by_cases e : a = b
        · subst e
          rw [xro_s]; unfold cpR; rw [if_neg (by omega)]
        · rw [xro_n e]
      refine V_ild5 dX6_copy_3 ?_
      refine V_ild4 dX6_copy_5 ?_
      refine V_icmp_ge (tgt := 28) dX6_copy_7 (by decide) (fun h7 => ?_) (fun h7 => ?_)
      · exact absurd (nI_lt (by omega) (by omega)) h7
      · refine V_ald2 dX6_copy_10 ?_
        refine V_ild3 dX6_copy_11 ?_
        refine V_ild5 dX6_copy_12 ?_
        refine V_iadd dX6_copy_14 ?_
        refine V_ald0 dX6_copy_15 ?_
        refine V_ild1 dX6_copy_16 ?_
        refine V_ild5 dX6_copy_17 ?_
        refine V_iadd dX6_copy_19 ?_
        refine V_iald (j := s + k) dX6_copy_20 (by assumption) (nI_add _ _) (by omega) ?_
        rw [rd]
        refine V_iast (j := d + k) dX6_copy_21 (by assumption) (nI_add _ _) (by omega) ?_
        refine V_inc5 dX6_copy_22 rfl (nI_1 k) ?_
        refine V_goto (tgt := 3) dX6_copy_25 (by decide) ?_
        have := ih (k + 1) (by omega)
        rw [xup_r, xro_s, xro_ro, cpR_S]
        exact this
  refine V_iconst (v := 0) dX6_copy_0 (by decide) ?_
  refine V_ist5 dX6_copy_1 rfl (by decide) ?_
  have := loop m 0 (by omega)
  rw [cpR_0, xro_id] at this
  exact this
theorem c_X6_trace (h : xIs n K a 10 191) {lf : Nat} (hl : lf ≤ 60) (h47 : M a 47 = nI lf) (f : Int32) : Con E l Y_X6_trace [.ref a, .int f] (x, n, K, G, M, L) (xR none (x, n, K, G, xro M a (rTr (M a) lf f), L)) xF := by
  generalize hR : M a = R at *
  have tail : ∀ (Rc : xRow) (j : Nat), j < 60 → Rc 47 = nI j → rTr R lf f = upR (upR Rc (48 + j) f) 47 (nI (j + 1)) → V E l Y_X6_trace (xQm E Y_X6_trace (xR none (x, n, K, G, xro M a (rTr R lf f), L)) xF) (x, n, K, G, xro M a Rc, L) (0, 0) 28 [some (.ref a), some (.int f)] [] := by
    intro Rc j hj e1 e2
    refine V_ald0 dX6_trace_28 ?_
    refine V_bipush (v := 48) dX6_trace_29 (by decide) ?_
    refine V_ald0 dX6_trace_31 ?_
    refine V_bipush (v := 47) dX6_trace_32 (by decide) ?_
    refine V_iald (j := 47) dX6_trace_34 (by assumption) (by decide) (by decide) ?_
    refine V_iadd dX6_trace_35 ?_
    refine V_ild1 dX6_trace_36 ?_
    refine V_iast (j := 48 + j) dX6_trace_37 (by assumption) (by rw [xro_s, e1]; exact nI_add 48 j) (by omega) ?_
    refine V_ald0 dX6_trace_38 ?_
    refine V_bipush (v := 47) dX6_trace_39 (by decide) ?_
    refine V_dup2 dX6_trace_41 rfl rfl ?_
    refine V_iald (j := 47) dX6_trace_42 (by assumption) (by decide) (by decide) ?_
    refine V_iconst (v := 1) dX6_trace_43 (by decide) ?_
    refine V_iadd dX6_trace_44 ?_
    refine V_iast (j := 47) dX6_trace_45 (by assumption) (by decide) (by decide) ?_
    exact V_vret rfl dX6_trace_46 (by decide) (by decide) ⟨rfl, by simp only [xup_r, xro_s, xro_ro]; rw [upR_n (show (47 : Nat) ≠ 48 + j by omega), e1, nI_1, e2]⟩
  refine Con.mk 0 mp_X6_trace rfl (ls := [some (.ref a), some (.int f)]) rfl (Nat.le_of_ble_eq_true rfl) ?_
  refine V_ald0 dX6_trace_0 ?_
  refine V_bipush (v := 47) dX6_trace_1 (by decide) ?_
  refine V_iald (j := 47) dX6_trace_3 (by assumption) (by decide) (by decide) ?_
  refine V_bipush (v := 60) dX6_trace_4 (by decide) ?_
  refine V_icmp_ne (tgt := 28) dX6_trace_6 (by decide) (fun h6 => ?_) (fun h6 => ?_)
  · first
    | (guard_hyp h6 : ¬ M a 47 = 60
       rw [hR, h47] at h6
       have n60 : lf ≠ 60 := fun q => h6 (by rw [q]; rfl)
       have := tail R lf (by omega) h47 (by unfold rTr; rw [if_neg n60])
       rwa [← hR, xro_id, hR] at this)
    | (simp only [xup_r, xro_s, xro_ro, hR]
       refine tail _ 59 (by decide) (by rw [upR_s]; unfold cpR; rw [if_neg (by decide), h47]; decide) ?_
       unfold rTr
       rw [if_pos rfl, upR_comm (show (107 : Nat) ≠ 47 by decide), upR_comm (show (48 + 59 : Nat) ≠ 47 by decide), upR_same]
       rfl)
  · rw [hR, h47] at h6
    have l60 : lf = 60 := (nI_eq (b := 60) (by omega) (by decide)).mp h6
    subst l60
    refine V_ald0 dX6_trace_9 ?_
    refine V_bipush (v := 49) dX6_trace_10 (by decide) ?_
    refine V_ald0 dX6_trace_12 ?_
    refine V_bipush (v := 48) dX6_trace_13 (by decide) ?_
    refine V_bipush (v := 59) dX6_trace_15 (by decide) ?_
    refine V_cs5U lk_X6_49 cc_X6_copy dX6_trace_17 (c_X6_copy h h (s := 49) (d := 48) (m := 59) (by decide) (by decide) (Or.inr (by decide))) ft_X6_trace_X6_copy rfl rfl (Nat.le_of_ble_eq_true rfl) ?_
    refine V_ald0 dX6_trace_20 ?_
    refine V_bipush (v := 47) dX6_trace_21 (by decide) ?_
    refine V_dup2 dX6_trace_23 rfl rfl ?_
    refine V_iald (j := 47) dX6_trace_24 (by assumption) (by decide) (by decide) ?_
    refine V_iconst (v := 1) dX6_trace_25 (by decide) ?_
    refine V_isub dX6_trace_26 ?_
    refine V_iast (j := 47) dX6_trace_27 (by assumption) (by decide) (by decide) ?_
    first
    | (guard_hyp h6 : ¬ M a 47 = 60
       rw [hR, h47] at h6
       have n60 : lf ≠ 60 := fun q => h6 (by rw [q]; rfl)
       have := tail R lf (by omega) h47 (by unfold rTr; rw [if_neg n60])
       rwa [← hR, xro_id, hR] at this)
    | (simp only [xup_r, xro_s, xro_ro, hR]
       refine tail _ 59 (by decide) (by rw [upR_s]; unfold cpR; rw [if_neg (by decide), h47]; decide) ?_
       unfold rTr
       rw [if_pos rfl, upR_comm (show (107 : Nat) ≠ 47 by decide), upR_comm (show (48 + 59 : Nat) ≠ 47 by decide), upR_same]
       rfl)
end C51

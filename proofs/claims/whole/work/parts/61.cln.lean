/-! ===== the reference: a clean row; other plates are played ===== -/
theorem rCl_eq {R : xRow} : cpR (upR (upR (upR (upR (cpR R 0 (fun _ => 0) 0 191) 2 3) 3 4) 4 20) 5 3000) 16 rCln 16 7 = rCl R := by
  funext i
  by_cases h : 191 ≤ i
  · rw [cpR_out (by omega), upR_n (by omega), upR_n (by omega), upR_n (by omega), upR_n (by omega), cpR_out (by omega)]
    unfold rCl; rw [cpR_out (by omega)]
  · rw [rCl_lt (by omega)]
    by_cases h2 : 16 ≤ i ∧ i < 23
    · obtain ⟨j, rfl⟩ : ∃ j, i = 16 + j := ⟨i - 16, by omega⟩
      rw [cpR_in (by omega)]
    · rw [cpR_out (by omega)]
      by_cases e5 : i = 5
      · subst e5; rw [upR_s]; rfl
      rw [upR_n e5]
      by_cases e4 : i = 4
      · subst e4; rw [upR_s]; rfl
      rw [upR_n e4]
      by_cases e3 : i = 3
      · subst e3; rw [upR_s]; rfl
      rw [upR_n e3]
      by_cases e2 : i = 2
      · subst e2; rw [upR_s]; rfl
      rw [upR_n e2]
      have := cpR_in (R := R) (d := 0) (s := 0) (k := 191) (i := i) (F := fun _ => 0) (by omega)
      rw [Nat.zero_add] at this
      rw [this]
      unfold rCln
      rw [if_neg e2, if_neg e3, if_neg e4, if_neg e5, if_neg (by omega), if_neg (by omega), if_neg (by omega), if_neg (by omega), if_neg (by omega), if_neg (by omega), if_neg (by omega)]
theorem Sh.cln : Sh rCln := fun i hi => by
  unfold rCln
  rw [if_neg (by omega), if_neg (by omega), if_neg (by omega), if_neg (by omega), if_neg (by omega), if_neg (by omega), if_neg (by omega), if_neg (by omega), if_neg (by omega), if_neg (by omega), if_neg (by omega)]
theorem rCl_sh {R : xRow} (h : Sh R) : rCl R = rCln := cpR_row h Sh.cln
section C61
variable {E : xEnv} {l : Launch} {x : Bool} {n : Nat} {K : xKnd} {G : xRef} {M : xMem} {L : xLng} {a m T B : Nat} {S : xSp}
theorem c_X6_clean (h : xIs n K a 10 191) : Con E l Y_X6_clean [.ref a] (x, n, K, G, M, L) (xR none (x, n, K, G, xro M a (rCl (M a)), L)) xF := by
  rw [← rCl_eq]
  generalize hR : M a = R
  obtain ⟨N, hN⟩ : ∃ N, N = 191 := ⟨191, rfl⟩
  obtain ⟨N7, hN7⟩ : ∃ N, N = 7 := ⟨7, rfl⟩
  rw [show cpR R 0 (fun _ => 0) 0 191 = cpR R 0 (fun _ => 0) 0 N by rw [hN], ← hN7]
  refine Con.mk 1 mp_X6_clean rfl (ls := [some (.ref a), none]) rfl (Nat.le_of_ble_eq_true rfl) ?_
  have loop2 : ∀ (Z : xRow) (r i : Nat), r + i = N7 → V E l Y_X6_clean (xQm E Y_X6_clean (xR none (x, n, K, G, xro M a (cpR Z 16 rCln 16 N7), L)) xF) (x, n, K, G, xro M a (cpR Z 16 rCln 16 i), L) (0, 0) 40 [some (.ref a), some (.int (nI (i + 1)))] [] := by
    intro Z r
    induction r with
    | zero =>
      intro i hi
      have e : i = N7 := by omega
      subst e
      refine V_ild1 dX6_clean_40 ?_
      refine V_bipush (v := 8) dX6_clean_41 (by decide) ?_
      refine V_icmp_ge (tgt := 64) dX6_clean_43 (by decide) (fun h43 => ?_) (fun h43 => ?_)
      · exact V_vret rfl dX6_clean_64 (by decide) (by decide) ⟨rfl, rfl⟩
      · exact absurd h43 (nI_nlt (b := 8) (by omega) (by omega))
    | succ r ih =>
      intro i hi
      refine V_ild1 dX6_clean_40 ?_
      refine V_bipush (v := 8) dX6_clean_41 (by decide) ?_
      refine V_icmp_ge (tgt := 64) dX6_clean_43 (by decide) (fun h43 => ?_) (fun h43 => ?_)
      · exact absurd (nI_lt (b := 8) (by omega) (by decide)) h43
      · refine V_ald0 dX6_clean_46 ?_
        refine V_bipush (v := 16) dX6_clean_47 (by decide) ?_
        refine V_ild1 dX6_clean_49 ?_
        refine V_iadd dX6_clean_50 ?_
        refine V_iconst (v := 1) dX6_clean_51 (by decide) ?_
        refine V_isub dX6_clean_52 ?_
        refine V_ild1 dX6_clean_53 ?_
        refine V_cs1R lk_X6_42 cc_X6_firstBorder dX6_clean_54 (c_X6_firstBorder (k := i) (by omega)) ft_X6_clean_X6_firstBorder rfl rfl (Nat.le_of_ble_eq_true rfl) ?_
        refine V_iast (j := 16 + i) dX6_clean_57 (by assumption) kI_16 (by omega) ?_
        refine V_inc1 dX6_clean_58 rfl (nI_1 (i + 1)) ?_
        refine V_goto (tgt := 40) dX6_clean_61 (by decide) ?_
        have := ih (i + 1) (by omega)
        rw [xup_r, xro_s, xro_ro, cpR_S]
        exact this
  have loop1 : ∀ (r i : Nat), r + i = N → V E l Y_X6_clean (xQm E Y_X6_clean (xR none (x, n, K, G, xro M a (cpR (upR (upR (upR (upR (cpR R 0 (fun _ => 0) 0 N) 2 3) 3 4) 4 20) 5 3000) 16 rCln 16 N7), L)) xF) (x, n, K, G, xro M a (cpR R 0 (fun _ => 0) 0 i), L) (0, 0) 2 [some (.ref a), some (.int (nI i))] [] := by
    intro r
    induction r with
    | zero =>
      intro i hi
      have e : i = N := by omega
      subst e
      refine V_ild1 dX6_clean_2 ?_
      refine V_sipush (v := 191) dX6_clean_3 (by decide) ?_
      refine V_icmp_ge (tgt := 19) dX6_clean_6 (by decide) (fun h6 => ?_) (fun h6 => ?_)
      · refine V_ald0 dX6_clean_19 ?_
        refine V_iconst (v := 2) dX6_clean_20 (by decide) ?_
        refine V_iconst (v := 3) dX6_clean_21 (by decide) ?_
        refine V_iast (j := 2) dX6_clean_22 (by assumption) (by decide) (by decide) ?_
        refine V_ald0 dX6_clean_23 ?_
        refine V_iconst (v := 3) dX6_clean_24 (by decide) ?_
        refine V_iconst (v := 4) dX6_clean_25 (by decide) ?_
        refine V_iast (j := 3) dX6_clean_26 (by assumption) (by decide) (by decide) ?_
        refine V_ald0 dX6_clean_27 ?_
        refine V_iconst (v := 4) dX6_clean_28 (by decide) ?_
        refine V_bipush (v := 20) dX6_clean_29 (by decide) ?_
        refine V_iast (j := 4) dX6_clean_31 (by assumption) (by decide) (by decide) ?_
        refine V_ald0 dX6_clean_32 ?_
        refine V_iconst (v := 5) dX6_clean_33 (by decide) ?_
        refine V_sipush (v := 3000) dX6_clean_34 (by decide) ?_
        refine V_iast (j := 5) dX6_clean_37 (by assumption) (by decide) (by decide) ?_
        refine V_iconst (v := 1) dX6_clean_38 (by decide) ?_
        refine V_ist1 dX6_clean_39 rfl (by decide) ?_
        have := loop2 (upR (upR (upR (upR (cpR R 0 (fun _ => 0) 0 i) 2 3) 3 4) 4 20) 5 3000) N7 0 (by omega)
        rw [cpR_0] at this
        simp only [xup_r, xro_s, xro_ro]
        exact this
      · exact absurd h6 (nI_nlt (b := 191) (by omega) (by omega))
    | succ r ih =>
      intro i hi
      refine V_ild1 dX6_clean_2 ?_
      refine V_sipush (v := 191) dX6_clean_3 (by decide) ?_
      refine V_icmp_ge (tgt := 19) dX6_clean_6 (by decide) (fun h6 => ?_) (fun h6 => ?_)
      · exact absurd (nI_lt (b := 191) (by omega) (by decide)) h6
      · refine V_ald0 dX6_clean_9 ?_
        refine V_ild1 dX6_clean_10 ?_
        refine V_iconst (v := 0) dX6_clean_11 (by decide) ?_
        refine V_iast (j := i) dX6_clean_12 (by assumption) rfl (by omega) ?_
        refine V_inc1 dX6_clean_13 rfl (nI_1 i) ?_
        refine V_goto (tgt := 2) dX6_clean_16 (by decide) ?_
        have := ih (i + 1) (by omega)
        have e := cpR_S (R := R) (d := 0) (s := 0) (k := i) (F := fun _ => 0)
        rw [Nat.zero_add] at e
        rw [xup_r, xro_s, xro_ro, e]
        exact this
  refine V_iconst (v := 0) dX6_clean_0 (by decide) ?_
  refine V_ist1 dX6_clean_1 rfl (by decide) ?_
  have := loop1 N 0 (by omega)
  rw [cpR_0, ← hR, xro_id, hR] at this
  exact this
end C61

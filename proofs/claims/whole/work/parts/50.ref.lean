/-! ===== the reference: what it does to a row ===== -/
/-- one array's numbers are others -/
def xro (M : xMem) (a : Nat) (R : xRow) : xMem := fun k => if k = a then R else M k
section P50
variable {M M' : xMem} {L L' : xLng} {a b : Nat} {R R' Q : xRow} {T B : Nat}
theorem xro_s : xro M a R a = R := by unfold xro; rw [if_pos rfl]
theorem xro_n {k : Nat} (h : k ≠ a) : xro M a R k = M k := by unfold xro; rw [if_neg h]
theorem xro_ro : xro (xro M a R) a R' = xro M a R' := by funext k; unfold xro; split <;> rfl
theorem xro_id : xro M a (M a) = M := by
  funext k; unfold xro
  by_cases e : k = a
  · rw [if_pos e, e]
  · rw [if_neg e]
theorem xroE {x : Bool} {n : Nat} {K : xKnd} {G : xRef} (h : R' = R) : ((x, n, K, G, xro M a R, L) : xS) = (x, n, K, G, xro M a R', L) := by rw [h]
theorem rGo_a {t : Int32} (h : ¬ 0 < t) : rGo R t = upR R 0 (R 0 + t) := if_neg fun q => h q.1
theorem rGo_b {t : Int32} (h : ¬ upR R 0 (R 0 + t) 13 = 1) : rGo R t = upR R 0 (R 0 + t) := if_neg fun q => h q.2.1
theorem rGo_c {t : Int32} (h : upR R 0 (R 0 + t) 0 - upR R 0 (R 0 + t) 11 < upR R 0 (R 0 + t) 2) : rGo R t = upR R 0 (R 0 + t) := if_neg fun q => q.2.2 h
theorem rGo_d {t : Int32} (h1 : 0 < t) (h2 : upR R 0 (R 0 + t) 13 = 1) (h : ¬ upR R 0 (R 0 + t) 0 - upR R 0 (R 0 + t) 11 < upR R 0 (R 0 + t) 2) : rGo R t = rClose (upR R 0 (R 0 + t)) := if_pos ⟨h1, h2, h⟩
theorem rMuch_a {v : Int32} (h : R 5 < v) : rMuch R v = upR (upR R 15 1) 12 (R 5) := if_pos h
theorem rMuch_b {v : Int32} (h : ¬ R 5 < v) : rMuch R v = upR R 12 v := if_neg h
theorem xup_r {i : Nat} {v : Int32} : xup M a i v = xro M a (upR (M a) i v) := by
  funext k j; unfold xup xro upR
  by_cases e : k = a
  · subst e; simp
  · simp [e]
theorem xNp {c : Int32} (h : 0 < c) : ¬ c < 0 := fun q => by
  have h1 := Int32.lt_iff_toInt_lt.mp q
  have h2 := Int32.lt_iff_toInt_lt.mp h
  omega
theorem kI_16 {k : Nat} : (16 : Int32) + nI (k + 1) - 1 = nI (16 + k) := by rw [show (16 : Int32) + nI (k + 1) = nI (16 + (k + 1)) from nI_add 16 _]; exact pkSub (b := 1) (by omega)
theorem kI_23 {k : Nat} : (23 : Int32) + 3 * nI k = nI (23 + 3 * k) := by rw [show (3 : Int32) * nI k = nI (3 * k) from pk_mul 3 k]; exact nI_add 23 _
theorem kI_24 {k : Nat} : (23 : Int32) + 3 * nI k + 1 = nI (24 + 3 * k) := by rw [kI_23, nI_1]; congr 1; omega
theorem kI_25 {k : Nat} : (23 : Int32) + 3 * nI k + 2 = nI (25 + 3 * k) := by rw [kI_23, show nI (23 + 3 * k) + 2 = nI (23 + 3 * k + 2) from nI_add _ 2]; congr 1; omega
theorem upR_same {i : Nat} {v w : Int32} : upR (upR R i v) i w = upR R i w := by funext j; unfold upR; split <;> rfl
theorem upR_comm {i j : Nat} {v w : Int32} (h : i ≠ j) : upR (upR R i v) j w = upR (upR R j w) i v := by
  funext k; unfold upR
  by_cases e1 : k = i
  · subst e1; simp [h]
  · by_cases e2 : k = j
    · subst e2; simp [Ne.symm h]
    · simp [e1, e2]
theorem cpR_0 {d s : Nat} {F : xRow} : cpR R d F s 0 = R := by funext i; unfold cpR; rw [if_neg (by omega)]
theorem cpR_S {d s k : Nat} {F : xRow} : upR (cpR R d F s k) (d + k) (F (s + k)) = cpR R d F s (k + 1) := by
  funext i; unfold upR cpR
  by_cases e : i = d + k
  · subst e; rw [if_pos rfl, if_pos (by omega)]; congr 1; omega
  · rw [if_neg e]
    by_cases c : d ≤ i ∧ i < d + k
    · rw [if_pos c, if_pos (by omega)]
    · rw [if_neg c, if_neg (by omega)]
end P50
section C50
variable {E : xEnv} {l : Launch} {x : Bool} {n : Nat} {K : xKnd} {G : xRef} {M : xMem} {L : xLng} {a : Nat}
theorem c_X6_in {q : xS} (v a b : Int64) : Con E l Y_X6_in [.long v, .long a, .long b] q (xR (some (.int (bI (¬ v < a ∧ ¬ b < v)))) q) xF := by
  refine Con.mk 0 mp_X6_in rfl (ls := [some (.long v), none, some (.long a), none, some (.long b), none]) rfl (Nat.le_of_ble_eq_true rfl) ?_
  refine V_lld0 dX6_in_0 ?_
  refine V_lld2 dX6_in_1 ?_
  refine V_lcmp dX6_in_2 ?_
  refine V_if_lt (tgt := 17) dX6_in_3 (by decide) (fun h3 => ?_) (fun h3 => ?_)
  · refine V_iconst (v := 0) dX6_in_17 (by decide) ?_
    exact V_zret rfl dX6_in_18 (Or.inl rfl) (by decide) (by decide) (by
  refine ⟨?_, rfl⟩
  first
  | (guard_hyp h3 : lg_cmp v a < 0; exact congrArg (fun z => some (Value.int z)) (bIf (fun q => q.1 ((lg_cmp_lt v a).mp h3))).symm)
  | (guard_hyp h10 : 0 < lg_cmp v b; exact congrArg (fun z => some (Value.int z)) (bIf (fun q => q.2 ((lg_cmp_gt v b).mp h10))).symm)
  | exact congrArg (fun z => some (Value.int z)) (bIt ⟨fun q => h3 ((lg_cmp_lt v a).mpr q), fun q => h10 ((lg_cmp_gt v b).mpr q)⟩).symm)
  · refine V_lld0 dX6_in_6 ?_
    refine V_lld4 dX6_in_7 ?_
    refine V_lcmp dX6_in_9 ?_
    refine V_if_gt (tgt := 17) dX6_in_10 (by decide) (fun h10 => ?_) (fun h10 => ?_)
    · refine V_iconst (v := 0) dX6_in_17 (by decide) ?_
      exact V_zret rfl dX6_in_18 (Or.inl rfl) (by decide) (by decide) (by
  refine ⟨?_, rfl⟩
  first
  | (guard_hyp h3 : lg_cmp v a < 0; exact congrArg (fun z => some (Value.int z)) (bIf (fun q => q.1 ((lg_cmp_lt v a).mp h3))).symm)
  | (guard_hyp h10 : 0 < lg_cmp v b; exact congrArg (fun z => some (Value.int z)) (bIf (fun q => q.2 ((lg_cmp_gt v b).mp h10))).symm)
  | exact congrArg (fun z => some (Value.int z)) (bIt ⟨fun q => h3 ((lg_cmp_lt v a).mpr q), fun q => h10 ((lg_cmp_gt v b).mpr q)⟩).symm)
    · refine V_iconst (v := 1) dX6_in_13 (by decide) ?_
      refine V_goto (tgt := 18) dX6_in_14 (by decide) ?_
      exact V_zret rfl dX6_in_18 (Or.inr rfl) (by decide) (by decide) (by
  refine ⟨?_, rfl⟩
  first
  | (guard_hyp h3 : lg_cmp v a < 0; exact congrArg (fun z => some (Value.int z)) (bIf (fun q => q.1 ((lg_cmp_lt v a).mp h3))).symm)
  | (guard_hyp h10 : 0 < lg_cmp v b; exact congrArg (fun z => some (Value.int z)) (bIf (fun q => q.2 ((lg_cmp_gt v b).mp h10))).symm)
  | exact congrArg (fun z => some (Value.int z)) (bIt ⟨fun q => h3 ((lg_cmp_lt v a).mpr q), fun q => h10 ((lg_cmp_gt v b).mpr q)⟩).symm)
theorem c_X6_isInWindow (h : xIs n K a 10 191) : Con E l Y_X6_isInWindow [.ref a] (x, n, K, G, M, L) (xR (some (.int (bI (M a 0 - M a 11 < M a 2)))) (x, n, K, G, M, L)) xF := by
  refine Con.mk 0 mp_X6_isInWindow rfl (ls := [some (.ref a)]) rfl (Nat.le_of_ble_eq_true rfl) ?_
  refine V_ald0 dX6_isInWindow_0 ?_
  refine V_iconst (v := 0) dX6_isInWindow_1 (by decide) ?_
  refine V_iald (j := 0) dX6_isInWindow_2 (by assumption) (by decide) (by decide) ?_
  refine V_ald0 dX6_isInWindow_3 ?_
  refine V_bipush (v := 11) dX6_isInWindow_4 (by decide) ?_
  refine V_iald (j := 11) dX6_isInWindow_6 (by assumption) (by decide) (by decide) ?_
  refine V_isub dX6_isInWindow_7 ?_
  refine V_ald0 dX6_isInWindow_8 ?_
  refine V_iconst (v := 2) dX6_isInWindow_9 (by decide) ?_
  refine V_iald (j := 2) dX6_isInWindow_10 (by assumption) (by decide) (by decide) ?_
  refine V_icmp_ge (tgt := 18) dX6_isInWindow_11 (by decide) (fun h11 => ?_) (fun h11 => ?_)
  · refine V_iconst (v := 0) dX6_isInWindow_18 (by decide) ?_
    exact V_zret rfl dX6_isInWindow_19 (Or.inl rfl) (by decide) (by decide) ⟨by simp [bI, *], rfl⟩
  · refine V_iconst (v := 1) dX6_isInWindow_14 (by decide) ?_
    refine V_goto (tgt := 19) dX6_isInWindow_15 (by decide) ?_
    exact V_zret rfl dX6_isInWindow_19 (Or.inr rfl) (by decide) (by decide) ⟨by simp [bI, *], rfl⟩
theorem c_X6_close (h : xIs n K a 10 191) : Con E l Y_X6_close [.ref a] (x, n, K, G, M, L) (xR none (x, n, K, G, xro M a (rClose (M a)), L)) xF := by
  generalize hR : M a = R
  have fin : ∀ k, k ≤ 7 → rBin R (R 12) 7 = k → V E l Y_X6_close (xQm E Y_X6_close (xR none (x, n, K, G, xro M a (rClose R), L)) xF) (x, n, K, G, M, L) (0, 0) 28 [some (.ref a), some (.int (nI k))] [] := by
    intro k hk hb
    refine V_ald0 dX6_close_28 ?_
    refine V_bipush (v := 23) dX6_close_29 (by decide) ?_
    refine V_iconst (v := 3) dX6_close_31 (by decide) ?_
    refine V_ild1 dX6_close_32 ?_
    refine V_imul dX6_close_33 ?_
    refine V_iadd dX6_close_34 ?_
    refine V_dup2 dX6_close_35 rfl rfl ?_
    refine V_iald (j := 23 + 3 * k) dX6_close_36 (by assumption) kI_23 (by omega) ?_
    refine V_iconst (v := 1) dX6_close_37 (by decide) ?_
    refine V_iadd dX6_close_38 ?_
    refine V_iast (j := 23 + 3 * k) dX6_close_39 (by assumption) kI_23 (by omega) ?_
    refine V_ald0 dX6_close_40 ?_
    refine V_bipush (v := 23) dX6_close_41 (by decide) ?_
    refine V_iconst (v := 3) dX6_close_43 (by decide) ?_
    refine V_ild1 dX6_close_44 ?_
    refine V_imul dX6_close_45 ?_
    refine V_iadd dX6_close_46 ?_
    refine V_iconst (v := 1) dX6_close_47 (by decide) ?_
    refine V_iadd dX6_close_48 ?_
    refine V_dup2 dX6_close_49 rfl rfl ?_
    refine V_iald (j := 24 + 3 * k) dX6_close_50 (by assumption) kI_24 (by omega) ?_
    refine V_ald0 dX6_close_51 ?_
    refine V_bipush (v := 15) dX6_close_52 (by decide) ?_
    refine V_iald (j := 15) dX6_close_54 (by assumption) (by decide) (by decide) ?_
    refine V_iadd dX6_close_55 ?_
    refine V_iast (j := 24 + 3 * k) dX6_close_56 (by assumption) kI_24 (by omega) ?_
    refine V_ald0 dX6_close_57 ?_
    refine V_bipush (v := 23) dX6_close_58 (by decide) ?_
    refine V_iconst (v := 3) dX6_close_60 (by decide) ?_
    refine V_ild1 dX6_close_61 ?_
    refine V_imul dX6_close_62 ?_
    refine V_iadd dX6_close_63 ?_
    refine V_iconst (v := 2) dX6_close_64 (by decide) ?_
    refine V_iadd dX6_close_65 ?_
    refine V_dup2 dX6_close_66 rfl rfl ?_
    refine V_iald (j := 25 + 3 * k) dX6_close_67 (by assumption) kI_25 (by omega) ?_
    refine V_ald0 dX6_close_68 ?_
    refine V_bipush (v := 14) dX6_close_69 (by decide) ?_
    refine V_iald (j := 14) dX6_close_71 (by assumption) (by decide) (by decide) ?_
    refine V_iadd dX6_close_72 ?_
    refine V_iast (j := 25 + 3 * k) dX6_close_73 (by assumption) kI_25 (by omega) ?_
    refine V_ald0 dX6_close_74 ?_
    refine V_bipush (v := 13) dX6_close_75 (by decide) ?_
    refine V_iconst (v := 0) dX6_close_77 (by decide) ?_
    refine V_iast (j := 13) dX6_close_78 (by assumption) (by decide) (by decide) ?_
    exact V_vret rfl dX6_close_79 (by decide) (by decide) ⟨rfl, by simp only [xup_r, xro_s, xro_ro, hR]; unfold rClose; simp only [hb]⟩
  have loop : ∀ k, k ≤ 7 → rBin R (R 12) 7 = rBin R (R 12) k → V E l Y_X6_close (xQm E Y_X6_close (xR none (x, n, K, G, xro M a (rClose R), L)) xF) (x, n, K, G, M, L) (0, 0) 3 [some (.ref a), some (.int (nI k))] [] := by
    intro k
    induction k with
    | zero =>
      intro hk hb
      refine V_ild1 dX6_close_3 ?_
      refine V_if_le (tgt := 28) dX6_close_4 (by decide) (fun h4 => ?_) (fun h4 => ?_)
      · exact fin 0 hk (hb.trans rfl)
      · exact absurd h4 (by decide)
    | succ k ih =>
      intro hk hb
      refine V_ild1 dX6_close_3 ?_
      refine V_if_le (tgt := 28) dX6_close_4 (by decide) (fun h4 => ?_) (fun h4 => ?_)
      · exact absurd (nI_lt (a := 0) (by omega) (by omega)) h4
      · refine V_ald0 dX6_close_7 ?_
        refine V_bipush (v := 16) dX6_close_8 (by decide) ?_
        refine V_ild1 dX6_close_10 ?_
        refine V_iadd dX6_close_11 ?_
        refine V_iconst (v := 1) dX6_close_12 (by decide) ?_
        refine V_isub dX6_close_13 ?_
        refine V_iald (j := 16 + k) dX6_close_14 (by assumption) kI_16 (by omega) ?_
        refine V_ald0 dX6_close_15 ?_
        refine V_bipush (v := 12) dX6_close_16 (by decide) ?_
        refine V_iald (j := 12) dX6_close_18 (by assumption) (by decide) (by decide) ?_
        refine V_icmp_le (tgt := 28) dX6_close_19 (by decide) (fun h19 => ?_) (fun h19 => ?_)
        · rw [hR] at h19
          exact fin (k + 1) hk (by rw [hb, rBin, if_neg h19])
        · rw [hR] at h19
          refine V_inc1 dX6_close_22 rfl (pk_m1 k) ?_
          refine V_goto (tgt := 3) dX6_close_25 (by decide) ?_
          exact ih (by omega) (by rw [hb, rBin, if_pos h19])
  refine Con.mk 1 mp_X6_close rfl (ls := [some (.ref a), none]) rfl (Nat.le_of_ble_eq_true rfl) ?_
  refine V_bipush (v := 7) dX6_close_0 (by decide) ?_
  refine V_ist1 dX6_close_2 rfl (by decide) ?_
  exact loop 7 (by omega) rfl
theorem c_X6_goTicks (h : xIs n K a 10 191) (t : Int32) : Con E l Y_X6_goTicks [.ref a, .int t] (x, n, K, G, M, L) (xR none (x, n, K, G, xro M a (rGo (M a) t), L)) xF := by
  generalize hR : M a = R
  refine Con.mk 0 mp_X6_goTicks rfl (ls := [some (.ref a), some (.int t)]) rfl (Nat.le_of_ble_eq_true rfl) ?_
  refine V_ald0 dX6_goTicks_0 ?_
  refine V_iconst (v := 0) dX6_goTicks_1 (by decide) ?_
  refine V_dup2 dX6_goTicks_2 rfl rfl ?_
  refine V_iald (j := 0) dX6_goTicks_3 (by assumption) (by decide) (by decide) ?_
  refine V_ild1 dX6_goTicks_4 ?_
  refine V_iadd dX6_goTicks_5 ?_
  refine V_iast (j := 0) dX6_goTicks_6 (by assumption) (by decide) (by decide) ?_
  simp only [xup_r, hR]
  refine V_ild1 dX6_goTicks_7 ?_
  refine V_if_le (tgt := 30) dX6_goTicks_8 (by decide) (fun h8 => ?_) (fun h8 => ?_)
  · exact V_vret rfl dX6_goTicks_30 (by decide) (by decide) (by
  try simp only [xro_s, xro_ro]
  refine ⟨rfl, ?_⟩
  first
  | exact xroE (rGo_a h8)
  | exact xroE (rGo_b (by simpa only [xro_s] using h16))
  | exact xroE (rGo_d h8 (by simpa only [xro_s] using h16) h23)
  | exact xroE (rGo_c (by simpa only [xro_s, bI0, Decidable.not_not] using h23)))
  · refine V_ald0 dX6_goTicks_11 ?_
    refine V_bipush (v := 13) dX6_goTicks_12 (by decide) ?_
    refine V_iald (j := 13) dX6_goTicks_14 (by assumption) (by decide) (by decide) ?_
    refine V_iconst (v := 1) dX6_goTicks_15 (by decide) ?_
    refine V_icmp_ne (tgt := 30) dX6_goTicks_16 (by decide) (fun h16 => ?_) (fun h16 => ?_)
    · exact V_vret rfl dX6_goTicks_30 (by decide) (by decide) (by
  try simp only [xro_s, xro_ro]
  refine ⟨rfl, ?_⟩
  first
  | exact xroE (rGo_a h8)
  | exact xroE (rGo_b (by simpa only [xro_s] using h16))
  | exact xroE (rGo_d h8 (by simpa only [xro_s] using h16) h23)
  | exact xroE (rGo_c (by simpa only [xro_s, bI0, Decidable.not_not] using h23)))
    · refine V_ald0 dX6_goTicks_19 ?_
      refine V_cs1R lk_X6_57 cc_X6_isInWindow dX6_goTicks_20 (c_X6_isInWindow h) ft_X6_goTicks_X6_isInWindow rfl rfl (Nat.le_of_ble_eq_true rfl) ?_
      refine V_if_ne (tgt := 30) dX6_goTicks_23 (by decide) (fun h23 => ?_) (fun h23 => ?_)
      · exact V_vret rfl dX6_goTicks_30 (by decide) (by decide) (by
  try simp only [xro_s, xro_ro]
  refine ⟨rfl, ?_⟩
  first
  | exact xroE (rGo_a h8)
  | exact xroE (rGo_b (by simpa only [xro_s] using h16))
  | exact xroE (rGo_d h8 (by simpa only [xro_s] using h16) h23)
  | exact xroE (rGo_c (by simpa only [xro_s, bI0, Decidable.not_not] using h23)))
      · simp only [xro_s, bI0] at h23
        refine V_ald0 dX6_goTicks_26 ?_
        refine V_cs1U lk_X6_61 cc_X6_close dX6_goTicks_27 (c_X6_close h) ft_X6_goTicks_X6_close rfl rfl (Nat.le_of_ble_eq_true rfl) ?_
        exact V_vret rfl dX6_goTicks_30 (by decide) (by decide) (by
  try simp only [xro_s, xro_ro]
  refine ⟨rfl, ?_⟩
  first
  | exact xroE (rGo_a h8)
  | exact xroE (rGo_b (by simpa only [xro_s] using h16))
  | exact xroE (rGo_d h8 (by simpa only [xro_s] using h16) h23)
  | exact xroE (rGo_c (by simpa only [xro_s, bI0, Decidable.not_not] using h23)))
theorem c_X6_setMuch (h : xIs n K a 10 191) (v : Int32) : Con E l Y_X6_setMuch [.ref a, .int v] (x, n, K, G, M, L) (xR none (x, n, K, G, xro M a (rMuch (M a) v), L)) xF := by
  generalize hR : M a = R
  refine Con.mk 1 mp_X6_setMuch rfl (ls := [some (.ref a), some (.int v), none]) rfl (Nat.le_of_ble_eq_true rfl) ?_
  have same : upR R 15 (R 15) = R := by
    funext j; unfold upR
    by_cases e : j = 15
    · rw [if_pos e, e]
    · rw [if_neg e]
  refine V_ald0 dX6_setMuch_0 ?_
  refine V_iconst (v := 5) dX6_setMuch_1 (by decide) ?_
  refine V_iald (j := 5) dX6_setMuch_2 (by assumption) (by decide) (by decide) ?_
  refine V_ist2 dX6_setMuch_3 rfl (by decide) ?_
  refine V_ald0 dX6_setMuch_4 ?_
  refine V_bipush (v := 15) dX6_setMuch_5 (by decide) ?_
  refine V_ild1 dX6_setMuch_7 ?_
  refine V_ild2 dX6_setMuch_8 ?_
  refine V_icmp_le (tgt := 16) dX6_setMuch_9 (by decide) (fun h9 => ?_) (fun h9 => ?_)
  · refine V_ald0 dX6_setMuch_16 ?_
    refine V_bipush (v := 15) dX6_setMuch_17 (by decide) ?_
    refine V_iald (j := 15) dX6_setMuch_19 (by assumption) (by decide) (by decide) ?_
    refine V_iast (j := 15) dX6_setMuch_20 (by assumption) (by decide) (by decide) ?_
    refine V_ald0 dX6_setMuch_21 ?_
    refine V_bipush (v := 12) dX6_setMuch_22 (by decide) ?_
    refine V_ild1 dX6_setMuch_24 ?_
    refine V_ild2 dX6_setMuch_25 ?_
    refine V_icmp_le (tgt := 33) dX6_setMuch_26 (by decide) (fun h26 => ?_) (fun h26 => ?_)
    · refine V_ild1 dX6_setMuch_33 ?_
      refine V_iast (j := 12) dX6_setMuch_34 (by assumption) (by decide) (by decide) ?_
      exact V_vret rfl dX6_setMuch_35 (by decide) (by decide) (by
  simp only [xup_r, xro_s, xro_ro, hR, same] at *
  refine ⟨rfl, ?_⟩
  first
  | exact xroE (rMuch_a h9)
  | exact xroE (rMuch_b h9)
  | exact absurd h9 h26
  | exact absurd h26 h9)
    · refine V_ild2 dX6_setMuch_29 ?_
      refine V_goto (tgt := 34) dX6_setMuch_30 (by decide) ?_
      refine V_iast (j := 12) dX6_setMuch_34 (by assumption) (by decide) (by decide) ?_
      exact V_vret rfl dX6_setMuch_35 (by decide) (by decide) (by
  simp only [xup_r, xro_s, xro_ro, hR, same] at *
  refine ⟨rfl, ?_⟩
  first
  | exact xroE (rMuch_a h9)
  | exact xroE (rMuch_b h9)
  | exact absurd h9 h26
  | exact absurd h26 h9)
  · refine V_iconst (v := 1) dX6_setMuch_12 (by decide) ?_
    refine V_goto (tgt := 20) dX6_setMuch_13 (by decide) ?_
    refine V_iast (j := 15) dX6_setMuch_20 (by assumption) (by decide) (by decide) ?_
    refine V_ald0 dX6_setMuch_21 ?_
    refine V_bipush (v := 12) dX6_setMuch_22 (by decide) ?_
    refine V_ild1 dX6_setMuch_24 ?_
    refine V_ild2 dX6_setMuch_25 ?_
    refine V_icmp_le (tgt := 33) dX6_setMuch_26 (by decide) (fun h26 => ?_) (fun h26 => ?_)
    · refine V_ild1 dX6_setMuch_33 ?_
      refine V_iast (j := 12) dX6_setMuch_34 (by assumption) (by decide) (by decide) ?_
      exact V_vret rfl dX6_setMuch_35 (by decide) (by decide) (by
  simp only [xup_r, xro_s, xro_ro, hR, same] at *
  refine ⟨rfl, ?_⟩
  first
  | exact xroE (rMuch_a h9)
  | exact xroE (rMuch_b h9)
  | exact absurd h9 h26
  | exact absurd h26 h9)
    · refine V_ild2 dX6_setMuch_29 ?_
      refine V_goto (tgt := 34) dX6_setMuch_30 (by decide) ?_
      refine V_iast (j := 12) dX6_setMuch_34 (by assumption) (by decide) (by decide) ?_
      exact V_vret rfl dX6_setMuch_35 (by decide) (by decide) (by
  simp only [xup_r, xro_s, xro_ro, hR, same] at *
  refine ⟨rfl, ?_⟩
  first
  | exact xroE (rMuch_a h9)
  | exact xroE (rMuch_b h9)
  | exact absurd h9 h26
  | exact absurd h26 h9)
theorem c_X6_levelAt (h : xIs n K a 10 191) (h3 : ¬ M a 3 = 0) (t : Int32) : Con E l Y_X6_levelAt [.ref a, .int t] (x, n, K, G, M, L) (xR (some (.int (rLev (M a) t))) (x, n, K, G, M, L)) xF := by
  generalize hR : M a = R at *
  have loop : ¬ R 10 = 0 → ∀ (k : Nat) (v c : Int32), c.toNatClampNeg = k → rLev R t = halve k v → V E l Y_X6_levelAt (xQm E Y_X6_levelAt (xR (some (.int (rLev R t))) (x, n, K, G, M, L)) xF) (x, n, K, G, M, L) (0, 0) 25 [some (.ref a), some (.int t), some (.int v), some (.int c)] [] := by
    intro h10 k
    induction k with
    | zero =>
      intro v c hc he
      refine V_ild3 dX6_levelAt_25 ?_
      refine V_if_le (tgt := 43) dX6_levelAt_26 (by decide) (fun h26 => ?_) (fun h26 => ?_)
      · refine V_ild2 dX6_levelAt_43 ?_
        exact V_iret rfl dX6_levelAt_44 (by decide) (by decide) ⟨by rw [he]; rfl, rfl⟩
      · obtain ⟨j, j1, rfl⟩ := nI_of (xNp h26)
        rw [nI_clamp j1] at hc
        subst hc
        exact absurd h26 (by decide)
    | succ k ih =>
      intro v c hc he
      have hp : 0 < c := by
        refine Decidable.byContradiction fun q => ?_
        have : c.toNatClampNeg = 0 := by
          unfold Int32.toNatClampNeg
          have := Int32.le_iff_toInt_le.mp (Int32.not_lt.mp q)
          have z : (0 : Int32).toInt = 0 := rfl
          omega
        omega
      obtain ⟨j, j1, rfl⟩ := nI_of (xNp hp)
      rw [nI_clamp j1] at hc
      subst hc
      refine V_ild3 dX6_levelAt_25 ?_
      refine V_if_le (tgt := 43) dX6_levelAt_26 (by decide) (fun h26 => ?_) (fun h26 => ?_)
      · exact absurd hp h26
      · refine V_ild2 dX6_levelAt_29 ?_
        refine V_if_le (tgt := 43) dX6_levelAt_30 (by decide) (fun h30 => ?_) (fun h30 => ?_)
        · refine V_ild2 dX6_levelAt_43 ?_
          exact V_iret rfl dX6_levelAt_44 (by decide) (by decide) ⟨by rw [he, halve, if_neg h30], rfl⟩
        · refine V_ild2 dX6_levelAt_33 ?_
          refine V_iconst (v := 2) dX6_levelAt_34 (by decide) ?_
          refine V_idiv dX6_levelAt_35 (by decide) ?_
          refine V_ist2 dX6_levelAt_36 rfl (by decide) ?_
          refine V_inc3 dX6_levelAt_37 rfl (pk_m1 k) ?_
          refine V_goto (tgt := 25) dX6_levelAt_40 (by decide) ?_
          exact ih _ _ (nI_clamp (by omega)) (by rw [he, halve, if_pos h30])
  refine Con.mk 2 mp_X6_levelAt rfl (ls := [some (.ref a), some (.int t), none, none]) rfl (Nat.le_of_ble_eq_true rfl) ?_
  refine V_ald0 dX6_levelAt_0 ?_
  refine V_bipush (v := 10) dX6_levelAt_1 (by decide) ?_
  refine V_iald (j := 10) dX6_levelAt_3 (by assumption) (by decide) (by decide) ?_
  refine V_if_ne (tgt := 9) dX6_levelAt_4 (by decide) (fun h4 => ?_) (fun h4 => ?_)
  · rw [hR] at h4
    refine V_ald0 dX6_levelAt_9 ?_
    refine V_bipush (v := 12) dX6_levelAt_10 (by decide) ?_
    refine V_iald (j := 12) dX6_levelAt_12 (by assumption) (by decide) (by decide) ?_
    refine V_ist2 dX6_levelAt_13 rfl (by decide) ?_
    refine V_ild1 dX6_levelAt_14 ?_
    refine V_ald0 dX6_levelAt_15 ?_
    refine V_bipush (v := 11) dX6_levelAt_16 (by decide) ?_
    refine V_iald (j := 11) dX6_levelAt_18 (by assumption) (by decide) (by decide) ?_
    refine V_isub dX6_levelAt_19 ?_
    refine V_ald0 dX6_levelAt_20 ?_
    refine V_iconst (v := 3) dX6_levelAt_21 (by decide) ?_
    refine V_iald (j := 3) dX6_levelAt_22 (by assumption) (by decide) (by decide) ?_
    refine V_idiv dX6_levelAt_23 (by rw [hR]; exact h3) ?_
    refine V_ist3 dX6_levelAt_24 rfl (by decide) ?_
    rw [hR]
    exact loop h4 _ _ _ rfl (by unfold rLev; rw [if_neg h4])
  · rw [hR] at h4
    refine V_iconst (v := 0) dX6_levelAt_7 (by decide) ?_
    exact V_iret rfl dX6_levelAt_8 (by decide) (by decide) ⟨by unfold rLev; rw [if_pos h4], rfl⟩
theorem c_X6_level (h : xIs n K a 10 191) (h3 : ¬ M a 3 = 0) : Con E l Y_X6_level [.ref a] (x, n, K, G, M, L) (xR (some (.int (rLev (M a) (M a 0)))) (x, n, K, G, M, L)) xF := by
  refine Con.mk 0 mp_X6_level rfl (ls := [some (.ref a)]) rfl (Nat.le_of_ble_eq_true rfl) ?_
  refine V_ald0 dX6_level_0 ?_
  refine V_ald0 dX6_level_1 ?_
  refine V_iconst (v := 0) dX6_level_2 (by decide) ?_
  refine V_iald (j := 0) dX6_level_3 (by assumption) (by decide) (by decide) ?_
  refine V_cs2R lk_X6_53 cc_X6_levelAt dX6_level_4 (c_X6_levelAt h h3 _) ft_X6_level_X6_levelAt rfl rfl (Nat.le_of_ble_eq_true rfl) ?_
  exact V_iret rfl dX6_level_7 (by decide) (by decide) ⟨rfl, rfl⟩
end C50

/-! ===== the class: Accounts, State ===== -/
def rAc (n : Nat) (K : xKnd) (G : xRef) (a : Nat) : Prop := xIs n K a 0 6 ∧ G a 0 = some (a + 1) ∧ xIs n K (a + 1) 10 4 ∧ G a 3 = some (a + 2) ∧ rLn n K G (a + 2) 60 ∧ G a 4 = some (a + 4) ∧ rLn n K G (a + 4) 40 ∧ G a 5 = some (a + 6) ∧ rLn n K G (a + 6) 40
/-- the trace: newest at w, so many; the record: newest at v, so many -/
def iAc (M : xMem) (a w lf v lr : Nat) : Prop := iLn M (a + 2) 60 w lf ∧ iLn M (a + 4) 40 v lr ∧ iLn M (a + 6) 40 v lr
def kEnt (M : xMem) (a w lf v lr : Nat) (t s : Int32) (f : Nat) : xMem :=
  xup (kPush (kPush (kPush (xup M (a + 1) f (M (a + 1) f + 1)) (a + 2) 60 w lf (nI f)) (a + 4) 40 v lr s) (a + 6) 40 v lr (t - M a 2)) a 2 t
def kEntL (L : xLng) (a : Nat) (s : Int32) : xLng := xup L a 1 (L a 1 + kCube s)
def kAcCp (M : xMem) (a b : Nat) : xMem := kLnCp (kLnCp (kLnCp (xup (xcp M (a + 1) (b + 1) 4) b 2 (M a 2)) (a + 2) (b + 2) 60) (a + 4) (b + 4) 40) (a + 6) (b + 6) 40
def kAcCpL (L : xLng) (a b : Nat) : xLng := xup L b 1 (L a 1)
def rSt (n : Nat) (K : xKnd) (G : xRef) (s : Nat) : Prop := xIs n K s 3 2 ∧ G s 0 = some (s + 1) ∧ rPl n K G (s + 1) ∧ G s 1 = some (s + 7) ∧ rAc n K G (s + 7)
def kSumL (f : Nat → Int64) : Nat → Int64
  | 0 => 0
  | n + 1 => kSumL f n + f n
theorem kPush_k {M : xMem} {b N w len : Nat} {v : Int32} {k i : Nat} (h1 : k ≠ b) (h2 : k ≠ b + 1) : kPush M b N w len v k i = M k i := by
  unfold kPush; rw [xup_k h1, xup_k h2, xup_k h1]
theorem kLnCp_k {M : xMem} {a b N k i : Nat} (h1 : k ≠ b) (h2 : k ≠ b + 1) : kLnCp M a b N k i = M k i := by
  unfold kLnCp; rw [xup_k h1, xup_k h1]; simp only [xcp]; rw [if_neg (fun q => h2 q.1)]
theorem iLn.of {M M' : xMem} {b N w len : Nat} (h : iLn M b N w len) (e : ∀ i, M' b i = M b i) : iLn M' b N w len := by unfold iLn; rw [e, e]; exact h
section C23
variable {E : xEnv} {l : Launch} {x : Bool} {n : Nat} {K : xKnd} {G : xRef} {M : xMem} {L : xLng}
theorem c_X0_enter {a w lf v lr f : Nat} (h : rAc n K G a) (hi : iAc M a w lf v lr) (t s : Int32) (hf : f < 4) : Con E l Y_X0_enter [.ref a, .int t, .int s, .int (nI f)] (x, n, K, G, M, L) (xR none (x, n, K, G, kEnt M a w lf v lr t s f, kEntL L a s)) xF := by
  obtain ⟨h0, g1, h1, g2, h2, g3, h3, g4, h4⟩ := h
  obtain ⟨i1, i2, i3⟩ := hi
  refine Con.mk 0 mp_X0_enter rfl (ls := [some (.ref a), some (.int t), some (.int s), some (.int (nI f))]) rfl (Nat.le_of_ble_eq_true rfl) ?_
  refine V_ild3 dX0_enter_0 ?_
  refine V_if_lt (tgt := 23) dX0_enter_1 (by decide) (fun h1_1 => ?_) (fun h1_1 => ?_)
  · exact absurd h1_1 (nI_pos (by omega))
  · refine V_ild3 dX0_enter_4 ?_
    refine V_ald0 dX0_enter_5 ?_
    refine V_getR fd_X0_9 dX0_enter_6 (by assumption) (by assumption) rfl ?_
    refine V_alen dX0_enter_9 (by assumption) (by decide) (by decide) ?_
    refine V_icmp_ge (tgt := 23) dX0_enter_10 (by decide) (fun h10 => ?_) (fun h10 => ?_)
    · exact absurd (nI_lt hf (by decide)) h10
    · refine V_ald0 dX0_enter_13 ?_
      refine V_getR fd_X0_9 dX0_enter_14 (by assumption) (by assumption) rfl ?_
      refine V_ild3 dX0_enter_17 ?_
      refine V_dup2 dX0_enter_18 rfl rfl ?_
      refine V_iald (j := f) dX0_enter_19 (by assumption) rfl hf ?_
      refine V_iconst (v := 1) dX0_enter_20 (by decide) ?_
      refine V_iadd dX0_enter_21 ?_
      refine V_iast (j := f) dX0_enter_22 (by assumption) rfl hf ?_
      refine V_ald0 dX0_enter_23 ?_
      refine V_dup dX0_enter_24 rfl ?_
      refine V_getL fd_X0_15 dX0_enter_25 (by assumption) rfl ?_
      refine V_ild2 dX0_enter_28 ?_
      refine V_cs1R lk_X0_38 cc_X5_cube dX0_enter_29 (c_X5_cube _) ft_X0_enter_X5_cube rfl rfl (Nat.le_of_ble_eq_true rfl) ?_
      refine V_ladd dX0_enter_32 ?_
      refine V_putL fw_X0_15 dX0_enter_33 (by assumption) rfl ?_
      refine V_ald0 dX0_enter_36 ?_
      refine V_getR fd_X0_28 dX0_enter_37 (by assumption) (by assumption) rfl ?_
      refine V_ild3 dX0_enter_40 ?_
      refine V_cv1U lk_X0_42 cc_X1_push dX0_enter_41 h2.1 (c_X1_push h2 (i1.of fun i => xup_k (by omega)) _) ft_X0_enter_X1_push rfl rfl (Nat.le_of_ble_eq_true rfl) ?_
      refine V_ald0 dX0_enter_44 ?_
      refine V_getR fd_X0_32 dX0_enter_45 (by assumption) (by assumption) rfl ?_
      refine V_ild2 dX0_enter_48 ?_
      refine V_cv1U lk_X0_42 cc_X1_push dX0_enter_49 h3.1 (c_X1_push h3 (i2.of fun i => by rw [kPush_k (by omega) (by omega), xup_k (by omega)]) _) ft_X0_enter_X1_push rfl rfl (Nat.le_of_ble_eq_true rfl) ?_
      refine V_ald0 dX0_enter_52 ?_
      refine V_getR fd_X0_35 dX0_enter_53 (by assumption) (by assumption) rfl ?_
      refine V_ild1 dX0_enter_56 ?_
      refine V_ald0 dX0_enter_57 ?_
      refine V_getI fd_X0_19 dX0_enter_58 (by assumption) rfl ?_
      refine V_isub dX0_enter_61 ?_
      refine V_cv1U lk_X0_42 cc_X1_push dX0_enter_62 h4.1 (c_X1_push h4 (i3.of fun i => by rw [kPush_k (by omega) (by omega), kPush_k (by omega) (by omega), xup_k (by omega)]) _) ft_X0_enter_X1_push rfl rfl (Nat.le_of_ble_eq_true rfl) ?_
      refine V_ald0 dX0_enter_65 ?_
      refine V_ild1 dX0_enter_66 ?_
      refine V_putI fw_X0_19 dX0_enter_67 (by assumption) rfl ?_
      exact V_vret rfl dX0_enter_70 (by decide) (by decide) ⟨rfl, by unfold kEnt kEntL; rw [kPush_k (by omega) (by omega), kPush_k (by omega) (by omega), xup_k (by omega)]⟩
theorem c_X0_dropCount {a : Nat} (h : rAc n K G a) : Con E l Y_X0_dropCount [.ref a] (x, n, K, G, M, L) (xR (some (.int (kSum (M (a + 1)) 4))) (x, n, K, G, M, L)) xF := by
  obtain ⟨h0, g1, h1, g2, h2, g3, h3, g4, h4⟩ := h
  refine Con.mk 0 mp_X0_dropCount rfl (ls := [some (.ref a)]) rfl (Nat.le_of_ble_eq_true rfl) ?_
  refine V_ald0 dX0_dropCount_0 ?_
  refine V_getR fd_X0_9 dX0_dropCount_1 (by assumption) (by assumption) rfl ?_
  refine V_cs1R lk_X0_45 cc_X5_sumOf dX0_dropCount_4 (c_X5_sumOf h1) ft_X0_dropCount_X5_sumOf rfl rfl (Nat.le_of_ble_eq_true rfl) ?_
  exact V_iret rfl dX0_dropCount_7 (by decide) (by decide) ⟨rfl, rfl⟩
theorem c_X0_countOf {a f : Nat} (h : rAc n K G a) (hf : f < 4) : Con E l Y_X0_countOf [.ref a, .int (nI f)] (x, n, K, G, M, L) (xR (some (.int (M (a + 1) f))) (x, n, K, G, M, L)) xF := by
  obtain ⟨h0, g1, h1, g2, h2, g3, h3, g4, h4⟩ := h
  refine Con.mk 0 mp_X0_countOf rfl (ls := [some (.ref a), some (.int (nI f))]) rfl (Nat.le_of_ble_eq_true rfl) ?_
  refine V_ild1 dX0_countOf_0 ?_
  refine V_if_lt (tgt := 22) dX0_countOf_1 (by decide) (fun h1_1 => ?_) (fun h1_1 => ?_)
  · exact absurd h1_1 (nI_pos (by omega))
  · refine V_ild1 dX0_countOf_4 ?_
    refine V_ald0 dX0_countOf_5 ?_
    refine V_getR fd_X0_9 dX0_countOf_6 (by assumption) (by assumption) rfl ?_
    refine V_alen dX0_countOf_9 (by assumption) (by decide) (by decide) ?_
    refine V_icmp_ge (tgt := 22) dX0_countOf_10 (by decide) (fun h10 => ?_) (fun h10 => ?_)
    · exact absurd (nI_lt hf (by decide)) h10
    · refine V_ald0 dX0_countOf_13 ?_
      refine V_getR fd_X0_9 dX0_countOf_14 (by assumption) (by assumption) rfl ?_
      refine V_ild1 dX0_countOf_17 ?_
      refine V_iald (j := f) dX0_countOf_18 (by assumption) rfl hf ?_
      refine V_goto (tgt := 23) dX0_countOf_19 (by decide) ?_
      exact V_iret rfl dX0_countOf_23 (by decide) (by decide) ⟨rfl, rfl⟩
theorem c_X0_rainOfRecord {a w lf v lr : Nat} (h : rAc n K G a) (hi : iAc M a w lf v lr) : Con E l Y_X0_rainOfRecord [.ref a] (x, n, K, G, M, L) (xR (some (.long (kSumL (fun j => kCube (kLf M (a + 4) v 40 j)) lr))) (x, n, K, G, M, L)) xF := by
  obtain ⟨h0, g1, h1, g2, h2, g3, h3, g4, h4⟩ := h
  obtain ⟨i1, i2, i3⟩ := hi
  have hr := h3
  have hi2 := i2
  obtain ⟨k1, k2, k3, k4⟩ := h3
  obtain ⟨j1, j2, j3, j4⟩ := i2
  refine Con.mk 3 mp_X0_rainOfRecord rfl (ls := [some (.ref a), none, none, none]) rfl (Nat.le_of_ble_eq_true rfl) ?_
  have loop : ∀ (d i : Nat), i + d = lr → V E l Y_X0_rainOfRecord (xQm E Y_X0_rainOfRecord (xR (some (.long (kSumL (fun j => kCube (kLf M (a + 4) v 40 j)) lr))) (x, n, K, G, M, L)) xF) (x, n, K, G, M, L) (0, 0) 4 [some (.ref a), some (.long (kSumL (fun j => kCube (kLf M (a + 4) v 40 j)) i)), none, some (.int (nI i))] [] := by
    intro d
    induction d with
    | zero =>
      intro i hi
      have e : i = lr := by omega
      subst e
      refine V_ild3 dX0_rainOfRecord_4 ?_
      refine V_ald0 dX0_rainOfRecord_5 ?_
      refine V_getR fd_X0_32 dX0_rainOfRecord_6 (by assumption) (by assumption) rfl ?_
      refine V_getI fd_X0_49 dX0_rainOfRecord_9 (by assumption) rfl ?_
      refine V_icmp_ge (tgt := 35) dX0_rainOfRecord_12 (by decide) (fun h12 => ?_) (fun h12 => ?_)
      · refine V_lld1 dX0_rainOfRecord_35 ?_
        exact V_lret rfl dX0_rainOfRecord_36 (by decide) (by decide) ⟨rfl, rfl⟩
      · rw [j3] at h12
        exact absurd h12 (nI_nlt (Nat.le_refl i) (by omega))
    | succ d ih =>
      intro i hi
      refine V_ild3 dX0_rainOfRecord_4 ?_
      refine V_ald0 dX0_rainOfRecord_5 ?_
      refine V_getR fd_X0_32 dX0_rainOfRecord_6 (by assumption) (by assumption) rfl ?_
      refine V_getI fd_X0_49 dX0_rainOfRecord_9 (by assumption) rfl ?_
      refine V_icmp_ge (tgt := 35) dX0_rainOfRecord_12 (by decide) (fun h12 => ?_) (fun h12 => ?_)
      · rw [j3] at h12
        exact absurd (nI_lt (by omega) (by omega)) h12
      · refine V_lld1 dX0_rainOfRecord_15 ?_
        refine V_ald0 dX0_rainOfRecord_16 ?_
        refine V_getR fd_X0_32 dX0_rainOfRecord_17 (by assumption) (by assumption) rfl ?_
        refine V_ild3 dX0_rainOfRecord_20 ?_
        refine V_cv1R lk_X0_52 cc_X1_back dX0_rainOfRecord_21 (by assumption) (c_X1_back hr hi2 (j := i) (by omega)) ft_X0_rainOfRecord_X1_back rfl rfl (Nat.le_of_ble_eq_true rfl) ?_
        refine V_cs1R lk_X0_38 cc_X5_cube dX0_rainOfRecord_24 (c_X5_cube _) ft_X0_rainOfRecord_X5_cube rfl rfl (Nat.le_of_ble_eq_true rfl) ?_
        refine V_ladd dX0_rainOfRecord_27 ?_
        refine V_lst1 dX0_rainOfRecord_28 rfl (by decide) ?_
        refine V_inc3 dX0_rainOfRecord_29 rfl (nI_1 i) ?_
        refine V_goto (tgt := 4) dX0_rainOfRecord_32 (by decide) ?_
        exact ih (i + 1) (by omega)
  refine V_lconst (v := 0) dX0_rainOfRecord_0 (by decide) ?_
  refine V_lst1 dX0_rainOfRecord_1 rfl (by decide) ?_
  refine V_iconst (v := 0) dX0_rainOfRecord_2 (by decide) ?_
  refine V_ist3 dX0_rainOfRecord_3 rfl (by decide) ?_
  exact loop lr 0 (by omega)
theorem c_X0_copyFrom {a b : Nat} (ha : rAc n K G a) (hb : rAc n K G b) (hab : a + 7 < b ∨ b + 7 < a) : Con E l Y_X0_copyFrom [.ref b, .ref a] (x, n, K, G, M, L) (xR none (x, n, K, G, kAcCp M a b, kAcCpL L a b)) xF := by
  obtain ⟨h0, g1, h1, g2, h2, g3, h3, g4, h4⟩ := ha
  obtain ⟨k0, f1, k1, f2, k2, f3, k3, f4, k4⟩ := hb
  refine Con.mk 0 mp_X0_copyFrom rfl (ls := [some (.ref b), some (.ref a)]) rfl (Nat.le_of_ble_eq_true rfl) ?_
  refine V_ald1 dX0_copyFrom_0 ?_
  refine V_getR fd_X0_9 dX0_copyFrom_1 (by assumption) (by assumption) rfl ?_
  refine V_ald0 dX0_copyFrom_4 ?_
  refine V_getR fd_X0_9 dX0_copyFrom_5 (by assumption) (by assumption) rfl ?_
  refine V_cs2U lk_X0_56 cc_X5_copyRow dX0_copyFrom_8 (c_X5_copyRow h1 k1 (by omega) (Nat.le_refl 4)) ft_X0_copyFrom_X5_copyRow rfl rfl (Nat.le_of_ble_eq_true rfl) ?_
  refine V_ald0 dX0_copyFrom_11 ?_
  refine V_ald1 dX0_copyFrom_12 ?_
  refine V_getL fd_X0_15 dX0_copyFrom_13 (by assumption) rfl ?_
  refine V_putL fw_X0_15 dX0_copyFrom_16 (by assumption) rfl ?_
  refine V_ald0 dX0_copyFrom_19 ?_
  refine V_ald1 dX0_copyFrom_20 ?_
  refine V_getI fd_X0_19 dX0_copyFrom_21 (by assumption) rfl ?_
  refine V_putI fw_X0_19 dX0_copyFrom_24 (by assumption) rfl ?_
  refine V_ald0 dX0_copyFrom_27 ?_
  refine V_getR fd_X0_28 dX0_copyFrom_28 (by assumption) (by assumption) rfl ?_
  refine V_ald1 dX0_copyFrom_31 ?_
  refine V_getR fd_X0_28 dX0_copyFrom_32 (by assumption) (by assumption) rfl ?_
  refine V_cv1U lk_X0_60 cc_X1_copyFrom dX0_copyFrom_35 k2.1 (c_X1_copyFrom h2 k2 (by omega)) ft_X0_copyFrom_X1_copyFrom rfl rfl (Nat.le_of_ble_eq_true rfl) ?_
  refine V_ald0 dX0_copyFrom_38 ?_
  refine V_getR fd_X0_32 dX0_copyFrom_39 (by assumption) (by assumption) rfl ?_
  refine V_ald1 dX0_copyFrom_42 ?_
  refine V_getR fd_X0_32 dX0_copyFrom_43 (by assumption) (by assumption) rfl ?_
  refine V_cv1U lk_X0_60 cc_X1_copyFrom dX0_copyFrom_46 k3.1 (c_X1_copyFrom h3 k3 (by omega)) ft_X0_copyFrom_X1_copyFrom rfl rfl (Nat.le_of_ble_eq_true rfl) ?_
  refine V_ald0 dX0_copyFrom_49 ?_
  refine V_getR fd_X0_35 dX0_copyFrom_50 (by assumption) (by assumption) rfl ?_
  refine V_ald1 dX0_copyFrom_53 ?_
  refine V_getR fd_X0_35 dX0_copyFrom_54 (by assumption) (by assumption) rfl ?_
  refine V_cv1U lk_X0_60 cc_X1_copyFrom dX0_copyFrom_57 k4.1 (c_X1_copyFrom h4 k4 (by omega)) ft_X0_copyFrom_X1_copyFrom rfl rfl (Nat.le_of_ble_eq_true rfl) ?_
  exact V_vret rfl dX0_copyFrom_60 (by decide) (by decide) ⟨rfl, by unfold kAcCp kAcCpL; simp only [xcp]; rw [if_neg (by omega)]⟩
theorem kFate_lt (M : xMem) (p : Nat) (t a : Int32) : ∃ f, f < 4 ∧ kFate M p t a = nI f := by
  unfold kFate
  split
  · exact ⟨1, by decide, rfl⟩
  · split
    · exact ⟨3, by decide, rfl⟩
    · split
      · exact ⟨2, by decide, rfl⟩
      · exact ⟨0, by decide, rfl⟩
theorem kStrike_k {M : xMem} {p : Nat} {w : Int32} {k i : Nat} (h : k ≠ p) : kStrike M p w k i = M k i := by
  unfold kStrike; split
  · rw [xup_k h, xup_k h]
  · rw [xup_k h]
theorem kClose_k {M : xMem} {p k i : Nat} (h : k < p ∨ p + 5 < k) : kClose M p k i = M k i := by
  unfold kClose; split
  · rfl
  · dsimp only
    rw [xup_k (by omega)]
    split
    · rw [xup_k (by omega), xup_k (by omega)]
    · rw [xup_k (by omega), xup_k (by omega), xup_k (by omega)]
theorem kOpen_k {M : xMem} {p : Nat} {w : Int32} {k i : Nat} (h : k ≠ p) : kOpen M p w k i = M k i := by
  unfold kOpen; rw [kStrike_k h, xup_k h, xup_k h, xup_k h, xup_k h, xup_k h]
theorem kRcM_k {M : xMem} {p : Nat} {s : Int32} {k i : Nat} (h : k < p ∨ p + 5 < k) : kRcM M p s k i = M k i := by
  unfold kRcM
  split
  · dsimp only; rw [xup_k (by omega), kStrike_k (by omega)]
  · split
    · rw [kOpen_k (by omega), kClose_k h]
    · rw [kClose_k h]
theorem kTick_k {M : xMem} {p : Nat} {t : Int32} {k i : Nat} (h : k ≠ p) : kTick M p t k i = M k i := by unfold kTick; rw [xup_k h]
/-- what falls: the plate and the accounts of the state s -/
def kFallM (M : xMem) (s w lf v lr : Nat) (t z : Int32) (f : Nat) : xMem := kEnt (kRcM (kTick M (s + 1) t) (s + 1) z) (s + 7) w lf v lr (kRcM (kTick M (s + 1) t) (s + 1) z (s + 1) 0) z f
theorem c_X3_letFall {s w lf v lr f : Nat} (h : rSt n K G s) (hi : iAc M (s + 7) w lf v lr) (t z : Int32) (hf : kRcF (kTick M (s + 1) t) (s + 1) z = nI f) (hf4 : f < 4) : Con E l Y_X3_letFall [.ref s, .int t, .int z] (x, n, K, G, M, L) (xR (some (.int (nI f))) (x, n, K, G, kFallM M s w lf v lr t z f, kEntL L (s + 7) z)) xF := by
  obtain ⟨h0, g1, h1, g2, h2⟩ := h
  have hp := h1.1
  have kk : ∀ k i, s + 6 < k → kRcM (kTick M (s + 1) t) (s + 1) z k i = M k i := fun k i q => by rw [kRcM_k (by omega), kTick_k (by omega)]
  refine Con.mk 1 mp_X3_letFall rfl (ls := [some (.ref s), some (.int t), some (.int z), none]) rfl (Nat.le_of_ble_eq_true rfl) ?_
  refine V_ald0 dX3_letFall_0 ?_
  refine V_getR fd_X3_10 dX3_letFall_1 (by assumption) (by assumption) rfl ?_
  refine V_ild1 dX3_letFall_4 ?_
  refine V_ild2 dX3_letFall_5 ?_
  refine V_cv2R lk_X3_23 cc_X2_receive dX3_letFall_6 hp (c_X2_receive h1 _ _) ft_X3_letFall_X2_receive rfl rfl (Nat.le_of_ble_eq_true rfl) ?_
  rw [hf]
  refine V_ist3 dX3_letFall_9 rfl (by decide) ?_
  refine V_ald0 dX3_letFall_10 ?_
  refine V_getR fd_X3_19 dX3_letFall_11 (by assumption) (by assumption) rfl ?_
  refine V_ald0 dX3_letFall_14 ?_
  refine V_getR fd_X3_10 dX3_letFall_15 (by assumption) (by assumption) rfl ?_
  refine V_getI fd_X3_27 dX3_letFall_18 hp rfl ?_
  refine V_ild2 dX3_letFall_21 ?_
  refine V_ild3 dX3_letFall_22 ?_
  refine V_cv3U lk_X3_31 cc_X0_enter dX3_letFall_23 h2.1 (c_X0_enter h2 (w := w) (lf := lf) (v := v) (lr := lr) ⟨hi.1.of fun i => kk _ _ (by omega), hi.2.1.of fun i => kk _ _ (by omega), hi.2.2.of fun i => kk _ _ (by omega)⟩ _ _ hf4) ft_X3_letFall_X0_enter rfl rfl (Nat.le_of_ble_eq_true rfl) ?_
  refine V_ild3 dX3_letFall_26 ?_
  exact V_iret rfl dX3_letFall_27 (by decide) (by decide) ⟨rfl, rfl⟩
def kStCp (M : xMem) (a b : Nat) : xMem := kAcCp (kPlCp M (a + 1) (b + 1)) (a + 7) (b + 7)
theorem c_X3_copyFrom {a b : Nat} (ha : rSt n K G a) (hb : rSt n K G b) (hab : a + 14 < b ∨ b + 14 < a) (hi : iPl M (a + 1)) : Con E l Y_X3_copyFrom [.ref b, .ref a] (x, n, K, G, M, L) (xR none (x, n, K, G, kStCp M a b, kAcCpL L (a + 7) (b + 7))) xF := by
  obtain ⟨h0, g1, h1, g2, h2⟩ := ha
  obtain ⟨k0, f1, k1, f2, k2⟩ := hb
  refine Con.mk 0 mp_X3_copyFrom rfl (ls := [some (.ref b), some (.ref a)]) rfl (Nat.le_of_ble_eq_true rfl) ?_
  refine V_ald0 dX3_copyFrom_0 ?_
  refine V_getR fd_X3_10 dX3_copyFrom_1 (by assumption) (by assumption) rfl ?_
  refine V_ald1 dX3_copyFrom_4 ?_
  refine V_getR fd_X3_10 dX3_copyFrom_5 (by assumption) (by assumption) rfl ?_
  refine V_cv1U lk_X3_35 cc_X2_copyFrom dX3_copyFrom_8 k1.1 (c_X2_copyFrom h1 k1 (by omega) hi) ft_X3_copyFrom_X2_copyFrom rfl rfl (Nat.le_of_ble_eq_true rfl) ?_
  refine V_ald0 dX3_copyFrom_11 ?_
  refine V_getR fd_X3_19 dX3_copyFrom_12 (by assumption) (by assumption) rfl ?_
  refine V_ald1 dX3_copyFrom_15 ?_
  refine V_getR fd_X3_19 dX3_copyFrom_16 (by assumption) (by assumption) rfl ?_
  refine V_cv1U lk_X3_39 cc_X0_copyFrom dX3_copyFrom_19 k2.1 (c_X0_copyFrom h2 k2 (by omega)) ft_X3_copyFrom_X0_copyFrom rfl rfl (Nat.le_of_ble_eq_true rfl) ?_
  exact V_vret rfl dX3_copyFrom_22 (by decide) (by decide) ⟨rfl, rfl⟩
end C23

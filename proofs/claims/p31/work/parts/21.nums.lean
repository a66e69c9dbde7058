/-! ===== the class: LastNumbers ===== -/
/-- the cells of a LastNumbers b: the object, its row -/
def rLn (n : Nat) (K : xKnd) (G : xRef) (b N : Nat) : Prop := xIs n K b 1 3 ∧ G b 0 = some (b + 1) ∧ xIs n K (b + 1) 10 N ∧ N ≤ 1000
/-- what it holds: the newest's place w, so many -/
def iLn (M : xMem) (b N w len : Nat) : Prop := M b 1 = nI w ∧ w < N ∧ M b 2 = nI len ∧ len ≤ N
def kNx (w N : Nat) : Nat := if w + 1 < N then w + 1 else 0
def kRing (w j N : Nat) : Nat := if j ≤ w then w - j else w + N - j
def kPush (M : xMem) (b N w len : Nat) (v : Int32) : xMem := xup (xup (xup M b 1 (nI (kNx w N))) (b + 1) (kNx w N) v) b 2 (nI (min (len + 1) N))
def kLnCp (M : xMem) (a b N : Nat) : xMem := xup (xup (xcp M (a + 1) (b + 1) N) b 1 (M a 1)) b 2 (M a 2)
theorem kNx_lt {w N : Nat} (h : w < N) : kNx w N < N := by unfold kNx; split <;> omega
theorem kRing_lt {w j N : Nat} (h : w < N) (hj : j < N) : kRing w j N < N := by unfold kRing; split <;> omega
theorem pkSub {a b : Nat} (h : b ≤ a) : nI a - nI b = nI (a - b) := pk_sub h
theorem kMin {len N : Nat} (h : len ≤ N) (hN : N ≤ 1000) : (if nI N < nI len + 1 then nI N else nI len + 1) = nI (min (len + 1) N) := by
  rw [nI_1]
  by_cases q : len + 1 ≤ N
  · rw [Nat.min_eq_left q, if_neg (nI_nlt q (by omega))]
  · have e : len = N := by omega
    subst e
    rw [Nat.min_eq_right (by omega), if_pos]
    exact nI_lt (by omega) (by omega)
theorem kAddSub {w j N : Nat} (h : j ≤ w + N) : nI w - nI j + nI N = nI (w + N - j) := by
  have h1 : nI (w + N - j) + nI j = nI w + nI N := by rw [nI_add, nI_add]; congr 1; omega
  grind
section C21
variable {E : xEnv} {l : Launch} {x : Bool} {n : Nat} {K : xKnd} {G : xRef} {M : xMem} {L : xLng}
theorem c_X1_push {b N w len : Nat} (h : rLn n K G b N) (hi : iLn M b N w len) (v : Int32) : Con E l Y_X1_push [.ref b, .int v] (x, n, K, G, M, L) (xR none (x, n, K, G, kPush M b N w len v, L)) xF := by
  obtain ⟨h1, g1, h2, h3⟩ := h
  obtain ⟨i1, i2, i3, i4⟩ := hi
  have hN := h2.2.2.2
  have hx := kNx_lt i2
  have fin : ∀ (y : Int32), y = nI (kNx w N) → V E l Y_X1_push (xQm E Y_X1_push (xR none (x, n, K, G, kPush M b N w len v, L)) xF) (x, n, K, G, M, L) (0, 0) 25 [some (.ref b), some (.int v)] [.int y, .ref b] := by
    intro y hy
    subst hy
    refine V_putI fw_X1_9 dX1_push_25 (by assumption) rfl ?_
    refine V_ald0 dX1_push_28 ?_
    refine V_getR fd_X1_24 dX1_push_29 (by assumption) (by assumption) rfl ?_
    refine V_ald0 dX1_push_32 ?_
    refine V_getI fd_X1_9 dX1_push_33 (by assumption) rfl ?_
    refine V_ild1 dX1_push_36 ?_
    refine V_iast (j := kNx w N) dX1_push_37 (by assumption) xup_s hx ?_
    refine V_ald0 dX1_push_38 ?_
    refine V_ald0 dX1_push_39 ?_
    refine V_getI fd_X1_15 dX1_push_40 (by assumption) rfl ?_
    refine V_iconst (v := 1) dX1_push_43 (by decide) ?_
    refine V_iadd dX1_push_44 ?_
    refine V_ald0 dX1_push_45 ?_
    refine V_getR fd_X1_24 dX1_push_46 (by assumption) (by assumption) rfl ?_
    refine V_alen dX1_push_49 (by assumption) (by decide) (by decide) ?_
    refine V_min ml_X1_28 mst_min mo_3 mcd_min dX1_push_50 (by decide) (by decide) (by decide) (by decide) (Nat.le_of_ble_eq_true rfl) ?_
    refine V_top (w := .int (nI (min (len + 1) N))) ?_ ?_
    · have e3 : xup (xup M b 1 (nI (kNx w N))) (b + 1) (kNx w N) v b 2 = nI len := by rw [xup_k (by omega), xup_i (by decide), i3]
      rw [e3, kMin i4 h3]
    refine V_putI fw_X1_15 dX1_push_53 (by assumption) rfl ?_
    exact V_vret rfl dX1_push_56 (by decide) (by decide) ⟨rfl, rfl⟩
  refine Con.mk 0 mp_X1_push rfl (ls := [some (.ref b), some (.int v)]) rfl (Nat.le_of_ble_eq_true rfl) ?_
  have e1 : nI N - 1 = nI (N - 1) := by have := pkSub (a := N) (b := 1) (by omega); exact this
  refine V_ald0 dX1_push_0 ?_
  refine V_ald0 dX1_push_1 ?_
  refine V_getI fd_X1_9 dX1_push_2 (by assumption) rfl ?_
  refine V_ald0 dX1_push_5 ?_
  refine V_getR fd_X1_24 dX1_push_6 (by assumption) (by assumption) rfl ?_
  refine V_alen dX1_push_9 (by assumption) (by decide) (by decide) ?_
  refine V_iconst (v := 1) dX1_push_10 (by decide) ?_
  refine V_isub dX1_push_11 ?_
  refine V_icmp_ge (tgt := 24) dX1_push_12 (by decide) (fun h12 => ?_) (fun h12 => ?_)
  · refine V_iconst (v := 0) dX1_push_24 (by decide) ?_
    rw [e1, i1] at h12
    first
    | exact fin _ (by unfold kNx; rw [if_pos (by have := (nI_ltI (by omega) (by omega)).mp h12; omega), i1, nI_1])
    | exact fin _ (by unfold kNx; rw [if_neg (by have := (not_congr (nI_ltI (by omega) (by omega))).mp h12; omega)]; rfl)
  · refine V_ald0 dX1_push_15 ?_
    refine V_getI fd_X1_9 dX1_push_16 (by assumption) rfl ?_
    refine V_iconst (v := 1) dX1_push_19 (by decide) ?_
    refine V_iadd dX1_push_20 ?_
    refine V_goto (tgt := 25) dX1_push_21 (by decide) ?_
    rw [e1, i1] at h12
    first
    | exact fin _ (by unfold kNx; rw [if_pos (by have := (nI_ltI (by omega) (by omega)).mp h12; omega), i1, nI_1])
    | exact fin _ (by unfold kNx; rw [if_neg (by have := (not_congr (nI_ltI (by omega) (by omega))).mp h12; omega)]; rfl)
theorem c_X1_back {b N w len j : Nat} (h : rLn n K G b N) (hi : iLn M b N w len) (hj : j < len) : Con E l Y_X1_back [.ref b, .int (nI j)] (x, n, K, G, M, L) (xR (some (.int (M (b + 1) (kRing w j N)))) (x, n, K, G, M, L)) xF := by
  obtain ⟨h1, g1, h2, h3⟩ := h
  obtain ⟨i1, i2, i3, i4⟩ := hi
  have hN := h2.2.2.2
  have hr := kRing_lt (w := w) (j := j) i2 (by omega)
  refine Con.mk 1 mp_X1_back rfl (ls := [some (.ref b), some (.int (nI j)), none]) rfl (Nat.le_of_ble_eq_true rfl) ?_
  have fin : ∀ (y : Int32) (o : Option Value), y = nI (kRing w j N) → V E l Y_X1_back (xQm E Y_X1_back (xR (some (.int (M (b + 1) (kRing w j N)))) (x, n, K, G, M, L)) xF) (x, n, K, G, M, L) (0, 0) 41 [some (.ref b), some (.int (nI j)), o] [.int y, .ref (b + 1)] := by
    intro y o hy
    refine V_iald (j := kRing w j N) dX1_back_41 (by assumption) hy hr ?_
    exact V_iret rfl dX1_back_42 (by decide) (by decide) ⟨rfl, rfl⟩
  refine V_ild1 dX1_back_0 ?_
  refine V_if_lt (tgt := 12) dX1_back_1 (by decide) (fun h1 => ?_) (fun h1 => ?_)
  · exact absurd h1 (nI_pos (by omega))
  · refine V_ild1 dX1_back_4 ?_
    refine V_ald0 dX1_back_5 ?_
    refine V_getI fd_X1_15 dX1_back_6 (by assumption) rfl ?_
    refine V_icmp_lt (tgt := 15) dX1_back_9 (by decide) (fun h9 => ?_) (fun h9 => ?_)
    · refine V_ald0 dX1_back_15 ?_
      refine V_getI fd_X1_9 dX1_back_16 (by assumption) rfl ?_
      refine V_ild1 dX1_back_19 ?_
      refine V_isub dX1_back_20 ?_
      refine V_ist2 dX1_back_21 rfl (by decide) ?_
      refine V_ald0 dX1_back_22 ?_
      refine V_getR fd_X1_24 dX1_back_23 (by assumption) (by assumption) rfl ?_
      refine V_ild2 dX1_back_26 ?_
      refine V_if_lt (tgt := 34) dX1_back_27 (by decide) (fun h27 => ?_) (fun h27 => ?_)
      · refine V_ild2 dX1_back_34 ?_
        refine V_ald0 dX1_back_35 ?_
        refine V_getR fd_X1_24 dX1_back_36 (by assumption) (by assumption) rfl ?_
        refine V_alen dX1_back_39 (by assumption) (by decide) (by decide) ?_
        refine V_iadd dX1_back_40 ?_
        rw [i1] at h27
        first
        | exact fin _ _ (by unfold kRing; rw [if_neg (fun q => absurd h27 (by rw [pkSub q]; exact nI_pos (by omega))), i1]; exact kAddSub (by omega))
        | exact fin _ _ (by unfold kRing; rw [if_pos (Nat.not_lt.mp fun q => h27 (pk_sneg (by omega) q)), i1]; exact pkSub (Nat.not_lt.mp fun q => h27 (pk_sneg (by omega) q)))
      · refine V_ild2 dX1_back_30 ?_
        refine V_goto (tgt := 41) dX1_back_31 (by decide) ?_
        rw [i1] at h27
        first
        | exact fin _ _ (by unfold kRing; rw [if_neg (fun q => absurd h27 (by rw [pkSub q]; exact nI_pos (by omega))), i1]; exact kAddSub (by omega))
        | exact fin _ _ (by unfold kRing; rw [if_pos (Nat.not_lt.mp fun q => h27 (pk_sneg (by omega) q)), i1]; exact pkSub (Nat.not_lt.mp fun q => h27 (pk_sneg (by omega) q)))
    · rw [i3] at h9
      exact absurd (nI_lt hj (by omega)) h9
def kLong (f : Nat → Int32) (v : Int32) : Nat → Int32 × Int32
  | 0 => (0, 0)
  | i + 1 => (if (kLong f v i).1 < (if f i = v then (kLong f v i).2 + 1 else 0) then (if f i = v then (kLong f v i).2 + 1 else 0) else (kLong f v i).1, if f i = v then (kLong f v i).2 + 1 else 0)
def kLf (M : xMem) (b w N : Nat) : Nat → Int32 := fun i => M (b + 1) (kRing w i N)
theorem c_X1_longestRunOf {b N w len : Nat} (h : rLn n K G b N) (hi : iLn M b N w len) (v : Int32) : Con E l Y_X1_longestRunOf [.ref b, .int v] (x, n, K, G, M, L) (xR (some (.int (kLong (kLf M b w N) v len).1)) (x, n, K, G, M, L)) xF := by
  have hr := h
  have hi0 := hi
  obtain ⟨h1, g1, h2, h3⟩ := h
  obtain ⟨i1, i2, i3, i4⟩ := hi
  refine Con.mk 3 mp_X1_longestRunOf rfl (ls := [some (.ref b), some (.int v), none, none, none]) rfl (Nat.le_of_ble_eq_true rfl) ?_
  have loop : ∀ (d i : Nat), i + d = len → V E l Y_X1_longestRunOf (xQm E Y_X1_longestRunOf (xR (some (.int (kLong (kLf M b w N) v len).1)) (x, n, K, G, M, L)) xF) (x, n, K, G, M, L) (0, 0) 7 [some (.ref b), some (.int v), some (.int (kLong (kLf M b w N) v i).1), some (.int (kLong (kLf M b w N) v i).2), some (.int (nI i))] [] := by
    intro d
    induction d with
    | zero =>
      intro i hi
      have e : i = len := by omega
      subst e
      refine V_ild4 dX1_longestRunOf_7 ?_
      refine V_ald0 dX1_longestRunOf_9 ?_
      refine V_getI fd_X1_15 dX1_longestRunOf_10 (by assumption) rfl ?_
      refine V_icmp_ge (tgt := 46) dX1_longestRunOf_13 (by decide) (fun h13 => ?_) (fun h13 => ?_)
      · refine V_ild2 dX1_longestRunOf_46 ?_
        exact V_iret rfl dX1_longestRunOf_47 (by decide) (by decide) ⟨rfl, rfl⟩
      · rw [i3] at h13
        exact absurd h13 (nI_nlt (Nat.le_refl i) (by omega))
    | succ d ih =>
      intro i hi
      have key : ∀ (y : Int32), y = (kLong (kLf M b w N) v (i + 1)).2 → V E l Y_X1_longestRunOf (xQm E Y_X1_longestRunOf (xR (some (.int (kLong (kLf M b w N) v len).1)) (x, n, K, G, M, L)) xF) (x, n, K, G, M, L) (0, 0) 33 [some (.ref b), some (.int v), some (.int (kLong (kLf M b w N) v i).1), some (.int (kLong (kLf M b w N) v i).2), some (.int (nI i))] [.int y] := by
        intro y hy
        subst hy
        refine V_ist3 dX1_longestRunOf_33 rfl (by decide) ?_
        refine V_ild2 dX1_longestRunOf_34 ?_
        refine V_ild3 dX1_longestRunOf_35 ?_
        refine V_max ml_X1_18 mst_max mo_3 mcd_max dX1_longestRunOf_36 (by decide) (by decide) (by decide) (by decide) (Nat.le_of_ble_eq_true rfl) ?_
        refine V_ist2 dX1_longestRunOf_39 rfl (by decide) ?_
        refine V_inc4 dX1_longestRunOf_40 rfl (nI_1 i) ?_
        refine V_goto (tgt := 7) dX1_longestRunOf_43 (by decide) ?_
        exact ih (i + 1) (by omega)
      refine V_ild4 dX1_longestRunOf_7 ?_
      refine V_ald0 dX1_longestRunOf_9 ?_
      refine V_getI fd_X1_15 dX1_longestRunOf_10 (by assumption) rfl ?_
      refine V_icmp_ge (tgt := 46) dX1_longestRunOf_13 (by decide) (fun h13 => ?_) (fun h13 => ?_)
      · rw [i3] at h13
        exact absurd (nI_lt (by omega) (by omega)) h13
      · refine V_ald0 dX1_longestRunOf_16 ?_
        refine V_ild4 dX1_longestRunOf_17 ?_
        refine V_cv1R lk_X1_31 cc_X1_back dX1_longestRunOf_19 (by assumption) (c_X1_back hr hi0 (j := i) (by omega)) ft_X1_longestRunOf_X1_back rfl rfl (Nat.le_of_ble_eq_true rfl) ?_
        refine V_ild1 dX1_longestRunOf_22 ?_
        refine V_icmp_ne (tgt := 32) dX1_longestRunOf_23 (by decide) (fun h23 => ?_) (fun h23 => ?_)
        · refine V_iconst (v := 0) dX1_longestRunOf_32 (by decide) ?_
          exact key _ (by simp only [kLong, kLf]; simp [h23])
        · refine V_ild3 dX1_longestRunOf_26 ?_
          refine V_iconst (v := 1) dX1_longestRunOf_27 (by decide) ?_
          refine V_iadd dX1_longestRunOf_28 ?_
          refine V_goto (tgt := 33) dX1_longestRunOf_29 (by decide) ?_
          exact key _ (by simp only [kLong, kLf]; simp [h23])
  refine V_iconst (v := 0) dX1_longestRunOf_0 (by decide) ?_
  refine V_ist2 dX1_longestRunOf_1 rfl (by decide) ?_
  refine V_iconst (v := 0) dX1_longestRunOf_2 (by decide) ?_
  refine V_ist3 dX1_longestRunOf_3 rfl (by decide) ?_
  refine V_iconst (v := 0) dX1_longestRunOf_4 (by decide) ?_
  refine V_ist4 dX1_longestRunOf_5 rfl (by decide) ?_
  exact loop len 0 (by omega)
def kDg (d : Int32) : Nat → Int32
  | 0 => d
  | i + 1 => kDg d i / 10
def kStB (f : Nat → Int32) (t : Nat) (d : Int32) : Nat → Bool
  | 0 => true
  | m + 1 => kStB f t d m && decide (f (t + m) = kDg d m - kDg d m / 10 * 10)
theorem kStB_no {f : Nat → Int32} {t : Nat} {d : Int32} {i : Nat} (h : ¬ f (t + i) = kDg d i - kDg d i / 10 * 10) : ∀ {m : Nat}, i < m → kStB f t d m = false
  | 0, q => absurd q (by omega)
  | m + 1, q => by
    by_cases e : i = m
    · subst e; simp [kStB, h]
    · simp [kStB, kStB_no h (m := m) (by omega)]
theorem c_X1_standsAt {b N w len t m : Nat} (h : rLn n K G b N) (hi : iLn M b N w len) (dg : Int32) (htm : t + m ≤ len) : Con E l Y_X1_standsAt [.ref b, .int (nI t), .int (nI m), .int dg] (x, n, K, G, M, L) (xR (some (.int (bI (kStB (kLf M b w N) t dg m = true)))) (x, n, K, G, M, L)) xF := by
  have hr := h
  have hi0 := hi
  obtain ⟨h1, g1, h2, h3⟩ := h
  obtain ⟨i1, i2, i3, i4⟩ := hi
  refine Con.mk 2 mp_X1_standsAt rfl (ls := [some (.ref b), some (.int (nI t)), some (.int (nI m)), some (.int dg), none, none]) rfl (Nat.le_of_ble_eq_true rfl) ?_
  have loop : ∀ (d i : Nat), i + d = m → kStB (kLf M b w N) t dg i = true → V E l Y_X1_standsAt (xQm E Y_X1_standsAt (xR (some (.int (bI (kStB (kLf M b w N) t dg m = true)))) (x, n, K, G, M, L)) xF) (x, n, K, G, M, L) (0, 0) 6 [some (.ref b), some (.int (nI t)), some (.int (nI m)), some (.int dg), some (.int (kDg dg i)), some (.int (nI i))] [] := by
    intro d
    induction d with
    | zero =>
      intro i hi hk
      have e : i = m := by omega
      subst e
      refine V_ild5 dX1_standsAt_6 ?_
      refine V_ild2 dX1_standsAt_8 ?_
      refine V_icmp_ge (tgt := 43) dX1_standsAt_9 (by decide) (fun h9 => ?_) (fun h9 => ?_)
      · refine V_iconst (v := 1) dX1_standsAt_43 (by decide) ?_
        exact V_zret rfl dX1_standsAt_44 (Or.inr rfl) (by decide) (by decide) ⟨by simp [bI, hk], rfl⟩
      · exact absurd h9 (nI_nlt (Nat.le_refl i) (by omega))
    | succ d ih =>
      intro i hi hk
      refine V_ild5 dX1_standsAt_6 ?_
      refine V_ild2 dX1_standsAt_8 ?_
      refine V_icmp_ge (tgt := 43) dX1_standsAt_9 (by decide) (fun h9 => ?_) (fun h9 => ?_)
      · exact absurd (nI_lt (by omega) (by omega)) h9
      · refine V_ald0 dX1_standsAt_12 ?_
        refine V_ild1 dX1_standsAt_13 ?_
        refine V_ild5 dX1_standsAt_14 ?_
        refine V_iadd dX1_standsAt_16 ?_
        refine V_top (w := .int (nI (t + i))) (by rw [nI_add]) ?_
        refine V_cv1R lk_X1_31 cc_X1_back dX1_standsAt_17 (by assumption) (c_X1_back hr hi0 (j := t + i) (by omega)) ft_X1_standsAt_X1_back rfl rfl (Nat.le_of_ble_eq_true rfl) ?_
        refine V_ild4 dX1_standsAt_20 ?_
        refine V_bipush (v := 10) dX1_standsAt_22 (by decide) ?_
        refine V_irem dX1_standsAt_24 (by decide) ?_
        refine V_icmp_eq (tgt := 30) dX1_standsAt_25 (by decide) (fun h25 => ?_) (fun h25 => ?_)
        · refine V_ild4 dX1_standsAt_30 ?_
          refine V_bipush (v := 10) dX1_standsAt_32 (by decide) ?_
          refine V_idiv dX1_standsAt_34 (by decide) ?_
          refine V_ist4 dX1_standsAt_35 rfl (by decide) ?_
          refine V_inc5 dX1_standsAt_37 rfl (nI_1 i) ?_
          refine V_goto (tgt := 6) dX1_standsAt_40 (by decide) ?_
          exact ih (i + 1) (by omega) (by simp only [kStB, hk, Bool.true_and, decide_eq_true_eq]; exact h25)
        · refine V_iconst (v := 0) dX1_standsAt_28 (by decide) ?_
          exact V_zret rfl dX1_standsAt_29 (Or.inl rfl) (by decide) (by decide) ⟨by rw [show kStB (kLf M b w N) t dg m = false from kStB_no (i := i) h25 (by omega)]; simp [bI], rfl⟩
  refine V_ild3 dX1_standsAt_0 ?_
  refine V_ist4 dX1_standsAt_1 rfl (by decide) ?_
  refine V_iconst (v := 0) dX1_standsAt_3 (by decide) ?_
  refine V_ist5 dX1_standsAt_4 rfl (by decide) ?_
  exact loop m 0 (by omega) rfl
theorem c_X1_placesOf {b N w len m : Nat} (h : rLn n K G b N) (hi : iLn M b N w len) (dg : Int32) (hm : m ≤ 1000) : Con E l Y_X1_placesOf [.ref b, .int (nI m), .int dg] (x, n, K, G, M, L) (xR (some (.int (kSum (fun t => bI (kStB (kLf M b w N) t dg m = true)) (len + 1 - m)))) (x, n, K, G, M, L)) xF := by
  have hr := h
  have hi0 := hi
  obtain ⟨h1, g1, h2, h3⟩ := h
  obtain ⟨i1, i2, i3, i4⟩ := hi
  refine Con.mk 2 mp_X1_placesOf rfl (ls := [some (.ref b), some (.int (nI m)), some (.int dg), none, none]) rfl (Nat.le_of_ble_eq_true rfl) ?_
  have loop : ∀ (d i : Nat), i + d = len + 1 - m → V E l Y_X1_placesOf (xQm E Y_X1_placesOf (xR (some (.int (kSum (fun t => bI (kStB (kLf M b w N) t dg m = true)) (len + 1 - m)))) (x, n, K, G, M, L)) xF) (x, n, K, G, M, L) (0, 0) 5 [some (.ref b), some (.int (nI m)), some (.int dg), some (.int (kSum (fun t => bI (kStB (kLf M b w N) t dg m = true)) i)), some (.int (nI i))] [] := by
    intro d
    induction d with
    | zero =>
      intro i hi
      have e : i = len + 1 - m := by omega
      subst e
      refine V_ild4 dX1_placesOf_5 ?_
      refine V_ild1 dX1_placesOf_7 ?_
      refine V_iadd dX1_placesOf_8 ?_
      refine V_ald0 dX1_placesOf_9 ?_
      refine V_getI fd_X1_15 dX1_placesOf_10 (by assumption) rfl ?_
      refine V_icmp_gt (tgt := 36) dX1_placesOf_13 (by decide) (fun h13 => ?_) (fun h13 => ?_)
      · refine V_ild3 dX1_placesOf_36 ?_
        exact V_iret rfl dX1_placesOf_37 (by decide) (by decide) ⟨rfl, rfl⟩
      · rw [i3, nI_add] at h13
        exact absurd (nI_lt (by omega) (by omega)) h13
    | succ d ih =>
      intro i hi
      refine V_ild4 dX1_placesOf_5 ?_
      refine V_ild1 dX1_placesOf_7 ?_
      refine V_iadd dX1_placesOf_8 ?_
      refine V_ald0 dX1_placesOf_9 ?_
      refine V_getI fd_X1_15 dX1_placesOf_10 (by assumption) rfl ?_
      refine V_icmp_gt (tgt := 36) dX1_placesOf_13 (by decide) (fun h13 => ?_) (fun h13 => ?_)
      · rw [i3, nI_add] at h13
        exact absurd h13 (nI_nlt (by omega) (by omega))
      · refine V_ald0 dX1_placesOf_16 ?_
        refine V_ild4 dX1_placesOf_17 ?_
        refine V_ild1 dX1_placesOf_19 ?_
        refine V_ild2 dX1_placesOf_20 ?_
        refine V_cv3R lk_X1_35 cc_X1_standsAt dX1_placesOf_21 (by assumption) (c_X1_standsAt hr hi0 (t := i) (m := m) dg (by omega)) ft_X1_placesOf_X1_standsAt rfl rfl (Nat.le_of_ble_eq_true rfl) ?_
        refine V_if_eq (tgt := 30) dX1_placesOf_24 (by decide) (fun h24 => ?_) (fun h24 => ?_)
        · refine V_inc4 dX1_placesOf_30 rfl (nI_1 i) ?_
          refine V_goto (tgt := 5) dX1_placesOf_33 (by decide) ?_
          have := ih (i + 1) (by omega)
          simp only [bI0, Decidable.not_not] at h24
          simpa [kSum, bI, h24] using this
        · refine V_inc3 dX1_placesOf_27 rfl (xinc_1 _) ?_
          refine V_inc4 dX1_placesOf_30 rfl (nI_1 i) ?_
          refine V_goto (tgt := 5) dX1_placesOf_33 (by decide) ?_
          have := ih (i + 1) (by omega)
          simp only [bI0, Decidable.not_not] at h24
          simpa [kSum, bI, h24] using this
  refine V_iconst (v := 0) dX1_placesOf_0 (by decide) ?_
  refine V_ist3 dX1_placesOf_1 rfl (by decide) ?_
  refine V_iconst (v := 0) dX1_placesOf_2 (by decide) ?_
  refine V_ist4 dX1_placesOf_3 rfl (by decide) ?_
  exact loop (len + 1 - m) 0 (by omega)
theorem c_X1_copyFrom {a b N : Nat} (ha : rLn n K G a N) (hb : rLn n K G b N) (hab : a + 1 < b ∨ b + 1 < a) : Con E l Y_X1_copyFrom [.ref b, .ref a] (x, n, K, G, M, L) (xR none (x, n, K, G, kLnCp M a b N, L)) xF := by
  obtain ⟨h1, g1, h2, h3⟩ := ha
  obtain ⟨k1, k2, k3, k4⟩ := hb
  refine Con.mk 0 mp_X1_copyFrom rfl (ls := [some (.ref b), some (.ref a)]) rfl (Nat.le_of_ble_eq_true rfl) ?_
  refine V_ald1 dX1_copyFrom_0 ?_
  refine V_getR fd_X1_24 dX1_copyFrom_1 (by assumption) (by assumption) rfl ?_
  refine V_ald0 dX1_copyFrom_4 ?_
  refine V_getR fd_X1_24 dX1_copyFrom_5 (by assumption) (by assumption) rfl ?_
  refine V_cs2U lk_X1_39 cc_X5_copyRow dX1_copyFrom_8 (c_X5_copyRow h2 k3 (by omega) (Nat.le_refl N)) ft_X1_copyFrom_X5_copyRow rfl rfl (Nat.le_of_ble_eq_true rfl) ?_
  refine V_ald0 dX1_copyFrom_11 ?_
  refine V_ald1 dX1_copyFrom_12 ?_
  refine V_getI fd_X1_9 dX1_copyFrom_13 (by assumption) rfl ?_
  refine V_putI fw_X1_9 dX1_copyFrom_16 (by assumption) rfl ?_
  refine V_ald0 dX1_copyFrom_19 ?_
  refine V_ald1 dX1_copyFrom_20 ?_
  refine V_getI fd_X1_15 dX1_copyFrom_21 (by assumption) rfl ?_
  refine V_putI fw_X1_15 dX1_copyFrom_24 (by assumption) rfl ?_
  exact V_vret rfl dX1_copyFrom_27 (by decide) (by decide) ⟨rfl, by unfold kLnCp; rw [xup_k (by omega)]; simp only [xcp]; rw [if_neg (by omega), if_neg (by omega)]⟩
end C21

/-! ===== ranges are kept; small methods of the whole object ===== -/
section P35
variable {R R' : xRow} {T B lf lr : Nat}
theorem nb.i {k lo hi : Nat} (h1 : lo ≤ k) (h2 : k ≤ hi) : nb (nI k) lo hi := ⟨k, h1, h2, rfl⟩
theorem rClose_13' {i : Nat} (h : i ≠ 13) (h2 : i < 23 ∨ 47 ≤ i) : rClose R i = R i := rClose_o ⟨h, h2⟩
theorem WFr.close (h : WFr R T B) : WFr (rClose R) T B := by
  obtain ⟨q1, q2, q3, q4, q5, q6, q7, q8, q9, q10, q11, q12, ⟨lr, l1, l2, l3⟩, q13⟩ := h
  have e : ∀ i, i ≠ 13 → (i < 23 ∨ 47 ≤ i) → rClose R i = R i := fun i h1 h2 => rClose_o ⟨h1, h2⟩
  unfold WFr
  rw [e 1 (by decide) (by decide), e 2 (by decide) (by decide), e 3 (by decide) (by decide), e 4 (by decide) (by decide), e 5 (by decide) (by decide), e 10 (by decide) (by decide), rClose_13, e 15 (by decide) (by decide), e 12 (by decide) (by decide), e 0 (by decide) (by decide), e 11 (by decide) (by decide), e 189 (by decide) (by decide), e 47 (by decide) (by decide), e 108 (by decide) (by decide), e 190 (by decide) (by decide)]
  exact ⟨q1, q2, q3, q4, q5, q6, Or.inl rfl, q8, q9, q10, fun k hk => by rw [e _ (by omega) (by omega)]; exact q11 k hk, q12, ⟨lr, l1, l2, fun j hj => by rw [e _ (by omega) (by omega), e _ (by omega) (by omega)]; exact l3 j hj⟩, q13⟩
theorem WFr.tick (h : WFr R T B) {d : Nat} : WFr (upR R 0 (R 0 + nI d)) (T + d) B := by
  obtain ⟨q1, q2, q3, q4, q5, q6, q7, q8, q9, ⟨t0, s0, la, e1, e2, e3, e4, e5, e6⟩, q11, q12, ⟨lr, l1, l2, l3⟩, q13⟩ := h
  have e : ∀ i, i ≠ 0 → upR R 0 (R 0 + nI d) i = R i := fun i h1 => upR_n h1
  unfold WFr
  rw [e 1 (by decide), e 2 (by decide), e 3 (by decide), e 4 (by decide), e 5 (by decide), e 10 (by decide), e 13 (by decide), e 15 (by decide), e 12 (by decide), upR_s, e 11 (by decide), e 189 (by decide), e 47 (by decide), e 108 (by decide), e 190 (by decide)]
  exact ⟨q1, q2, q3, q4, q5, q6, q7, q8, q9, ⟨t0 + d, s0, la, by rw [e1, nI_add], e2, e3, by omega, by omega, by omega⟩, fun k hk => by rw [e _ (by omega)]; exact q11 k hk, q12, ⟨lr, l1, l2, fun j hj => by rw [e _ (by omega), e _ (by omega)]; exact ⟨(l3 j hj).1.mono (Nat.le_refl _) (by omega), (l3 j hj).2⟩⟩, q13⟩
theorem WFr.go (h : WFr R T B) {d : Nat} : WFr (rGo R (nI d)) (T + d) B := by
  unfold rGo
  split
  · exact h.tick.close
  · exact h.tick
/-- one place of a row is changed -/
theorem WFr.up (h : WFr R T B) {i : Nat} {x : Int32} (hi : i < 191) (h1 : i = 1 → nb x 0 40) (h2 : i = 2 → nb x 0 20) (h3 : i = 3 → nb x 1 9) (h4 : i = 4 → nb x 1 200) (h5 : i = 5 → nb x 500 5000) (h10 : i = 10 ∨ i = 13 ∨ i = 15 → x = 0 ∨ x = 1) (h12 : i = 12 → nb x 0 5000)
    (h16 : 16 ≤ i → i < 23 → nb x 1 5000) (hn : i ≠ 0 ∧ i ≠ 11 ∧ i ≠ 189 ∧ i ≠ 47 ∧ i ≠ 108 ∧ i ≠ 190 ∧ ¬ (109 ≤ i ∧ i < 189)) : WFr (upR R i x) T B := by
  obtain ⟨q1, q2, q3, q4, q5, q6, q7, q8, q9, q10, q11, q12, ⟨lr, l1, l2, l3⟩, q13⟩ := h
  have c : ∀ j, (P : Int32 → Prop) → (i = j → P x) → P (R j) → P (upR R i x j) := fun j P a b => by
    unfold upR; split
    next e => exact a e.symm
    next => exact b
  refine ⟨c 1 (fun y => nb y 0 40) h1 q1, c 2 (fun y => nb y 0 20) h2 q2, c 3 (fun y => nb y 1 9) h3 q3, c 4 (fun y => nb y 1 200) h4 q4, c 5 (fun y => nb y 500 5000) h5 q5, c 10 (fun y => y = 0 ∨ y = 1) (fun e => h10 (Or.inl e)) q6, c 13 (fun y => y = 0 ∨ y = 1) (fun e => h10 (Or.inr (Or.inl e))) q7, c 15 (fun y => y = 0 ∨ y = 1) (fun e => h10 (Or.inr (Or.inr e))) q8, c 12 (fun y => nb y 0 5000) h12 q9, ?_, fun k hk => c (16 + k) (fun y => nb y 1 5000) (fun e => h16 (by omega) (by omega)) (q11 k hk), ?_, ⟨lr, l1, ?_, fun j hj => ?_⟩, ?_⟩
  · rw [upR_n (by omega), upR_n (by omega), upR_n (by omega)]; exact q10
  · rw [upR_n (by omega)]; exact q12
  · rw [upR_n (by omega)]; exact l2
  · rw [upR_n (by omega), upR_n (by omega)]; exact l3 j hj
  · rw [upR_n (by omega)]; exact q13
theorem WFr.str (h : WFr R T B) {z : Nat} (hz : z ≤ 60) : nb (rStr R (nI z)) 0 3600 := by
  obtain ⟨⟨t, -, t2, ht⟩, -⟩ := h
  have h1 : z * z ≤ 60 * 60 := Nat.mul_le_mul hz hz
  have h2 : z * z * (100 - 2 * t) ≤ 60 * 60 * 100 := Nat.mul_le_mul h1 (by omega)
  unfold rStr
  rw [ht, pk_mul, show (2 : Int32) * nI t = nI (2 * t) from pk_mul 2 t, show (100 : Int32) - nI (2 * t) = nI (100 - 2 * t) from pkSub (a := 100) (b := 2 * t) (by omega), pk_mul, show nI (z * z * (100 - 2 * t)) / 100 = nI (z * z * (100 - 2 * t) / 100) from pk_div (d := 100) (by omega) (by decide) (by decide)]
  exact nb.i (Nat.zero_le _) (by omega)
theorem WFr.lev (h : WFr R T B) : nb (rLev R (R 0)) 0 5000 := by
  obtain ⟨-, -, ⟨d, d1, d2, hd⟩, -, -, -, -, -, ⟨a, -, a2, ha⟩, ⟨t0, s0, la, e1, e2, e3, e4, e5, e6⟩, -⟩ := h
  unfold rLev
  split
  · exact nb.i (k := 0) (Nat.le_refl 0) (by omega)
  · rw [ha, halve_eq _ _ (by omega)]
    exact nb.i (Nat.zero_le _) (Nat.le_trans (Nat.div_le_self _ _) a2)
theorem WFr.much (h : WFr R T B) {w : Int32} (hw : nb w 0 10000) : WFr (rMuch R w) T B := by
  obtain ⟨s, s1, s2, hs⟩ := h.2.2.2.2.1
  obtain ⟨k, -, k2, hk⟩ := hw
  unfold rMuch
  split
  · refine (h.up (i := 15) (x := 1) (by decide) (by omega) (by omega) (by omega) (by omega) (by omega) (fun _ => Or.inr rfl) (by omega) (by omega) (by decide)).up (i := 12) (by decide) (by omega) (by omega) (by omega) (by omega) (by omega) (by omega) (fun _ => ?_) (by omega) (by decide)
    rw [hs]; exact nb.i (Nat.zero_le _) s2
  next c =>
    refine h.up (i := 12) (by decide) (by omega) (by omega) (by omega) (by omega) (by omega) (by omega) (fun _ => ?_) (by omega) (by decide)
    rw [hk, hs] at c
    rw [hk]
    refine nb.i (Nat.zero_le _) ?_
    have := (not_congr (nI_ltI (a := s) (b := k) (by omega) (by omega))).mp c
    omega
theorem WFr.opn (h : WFr R T B) {w : Int32} (hw : nb w 0 10000) : WFr (rOpn R w) T B := by
  unfold rOpn
  refine WFr.much ?_ hw
  have h1 := (((h.up (i := 13) (x := 1) (by decide) (by omega) (by omega) (by omega) (by omega) (by omega) (fun _ => Or.inr rfl) (by omega) (by omega) (by decide)).up (i := 14) (x := 1) (by decide) (by omega) (by omega) (by omega) (by omega) (by omega) (by omega) (by omega) (by omega) (by decide)).up (i := 15) (x := 0) (by decide) (by omega) (by omega) (by omega) (by omega) (by omega) (fun _ => Or.inl rfl) (by omega) (by omega) (by decide)).up (i := 10) (x := 1) (by decide) (by omega) (by omega) (by omega) (by omega) (by omega) (fun _ => Or.inr rfl) (by omega) (by omega) (by decide)
  generalize hR : upR (upR (upR (upR R 13 1) 14 1) 15 0) 10 1 = R1 at h1 ⊢
  have e0 : R1 0 = R 0 := by rw [← hR, upR_n (by decide), upR_n (by decide), upR_n (by decide), upR_n (by decide)]
  rw [← e0]
  obtain ⟨q1, q2, q3, q4, q5, q6, q7, q8, q9, ⟨t0, s0, la, e1, e2, e3, e4, e5, e6⟩, q11, q12, ⟨lr, l1, l2, l3⟩, q13⟩ := h1
  have e : ∀ i, i ≠ 11 → upR R1 11 (R1 0) i = R1 i := fun i h1 => upR_n h1
  unfold WFr
  rw [e 1 (by decide), e 2 (by decide), e 3 (by decide), e 4 (by decide), e 5 (by decide), e 10 (by decide), e 13 (by decide), e 15 (by decide), e 12 (by decide), upR_s, e 0 (by decide), e 189 (by decide), e 47 (by decide), e 108 (by decide), e 190 (by decide)]
  exact ⟨q1, q2, q3, q4, q5, q6, q7, q8, q9, ⟨t0, t0, la, e1, e1, e3, Nat.le_refl _, e5, e6⟩, fun k hk => by rw [e _ (by omega)]; exact q11 k hk, q12, ⟨lr, l1, l2, fun j hj => by rw [e _ (by omega), e _ (by omega)]; exact l3 j hj⟩, q13⟩
theorem WFr.fl (h : WFr R T B) {z : Nat} (hz : z ≤ 60) : WFr (rFl R (nI z)) T B := by
  have hs := h.str hz
  have hl := h.lev
  obtain ⟨a, -, a2, ha⟩ := h.2.2.2.2.2.2.2.2.1
  obtain ⟨b, -, b2, hb⟩ := hs
  obtain ⟨c, -, c2, hc⟩ := hl
  unfold rFl
  split
  · refine (h.much (w := R 12 + rStr R (nI z)) ?_).up (i := 14) (by decide) (by omega) (by omega) (by omega) (by omega) (by omega) (by omega) (by omega) (by omega) (by decide)
    rw [ha, hb, nI_add]; exact nb.i (Nat.zero_le _) (by omega)
  · have h1 : WFr (if R 13 = 1 then rClose R else R) T B := by split; exact h.close; exact h
    split
    · refine h1.opn ?_
      rw [hb, hc, show nI c / 2 = nI (c / 2) from pk_div (d := 2) (by omega) (by decide) (by decide), nI_add]
      exact nb.i (Nat.zero_le _) (by omega)
    · exact h1
theorem WFr.en (h : WFr R T B) {z f : Nat} (hz : 1 ≤ z ∧ z ≤ 60) (hf : f < 4) (e47 : R 47 = nI lf) (e108 : R 108 = nI lr) (hlf : lf ≤ 60) (hlr : lr ≤ 40) (hT : T < 2 ^ 30) (hB : B < 2 ^ 30) : WFr (rEn R lf lr f (nI z)) T (B + 216000) := by
  obtain ⟨q1, q2, q3, q4, q5, q6, q7, q8, q9, ⟨t0, s0, la, e1, e2, e3, e4, e5, e6⟩, q11, q12, ⟨lr2, l1, l2, l3⟩, ⟨ra, -, ra2, hra⟩⟩ := h
  have hl : lr2 = lr := (nI_eq (by omega) (by omega)).mp (l2.symm.trans e108)
  subst hl
  unfold rEn
  generalize hR2 : upR (upR R (6 + f) (R (6 + f) + 1)) 190 (upR R (6 + f) (R (6 + f) + 1) 190 + nI z * nI z * nI z) = R2
  have r2 : ∀ i, i ≠ 6 + f → i ≠ 190 → R2 i = R i := fun i h1 h2 => by rw [← hR2, upR_n h2, upR_n h1]
  have o : ∀ i, (i < 6 ∨ (10 ≤ i ∧ i < 47)) → rRc (rTr R2 lf (nI f)) lr2 (nI z) i = R i := fun i hi => by rw [rRc_out (by omega) hlr, rTr_out (by omega) hlf, r2 _ (by omega) (by omega)]
  unfold WFr
  rw [o 1 (by decide), o 2 (by decide), o 3 (by decide), o 4 (by decide), o 5 (by decide), o 10 (by decide), o 13 (by decide), o 15 (by decide), o 12 (by decide), o 0 (by decide), o 11 (by decide)]
  refine ⟨q1, q2, q3, q4, q5, q6, q7, q8, q9, ⟨t0, s0, t0, e1, e2, ?_, e4, Nat.le_refl _, e6⟩, fun k hk => by rw [o _ (by omega)]; exact q11 k hk, ?_, ⟨min (lr2 + 1) 40, Nat.min_le_right _ _, rRc_108 hlr, fun j hj => ?_⟩, ?_⟩
  · rw [rRc_189, rTr_out (by omega) hlf, r2 _ (by omega) (by omega), e1]
  · rw [rRc_out (by omega) hlr, rTr_47 hlf]; exact nb.i (Nat.zero_le _) (Nat.min_le_right _ _)
  · obtain ⟨i, hi, rfl⟩ : ∃ i, i < min (lr2 + 1) 40 ∧ j = min (lr2 + 1) 40 - 1 - i := ⟨min (lr2 + 1) 40 - 1 - j, by omega, by omega⟩
    rw [rRc_g hlr hi, rRc_z hlr hi]
    by_cases zz : i = 0
    · rw [if_pos zz, if_pos zz, rTr_out (by omega) hlf, rTr_out (by omega) hlf, r2 _ (by omega) (by omega), r2 _ (by omega) (by omega), e1, e3, pkSub e5]
      exact ⟨nb.i (Nat.zero_le _) (by omega), nb.i hz.1 hz.2⟩
    · rw [if_neg zz, if_neg zz, rTr_out (by omega) hlf, rTr_out (by omega) hlf, r2 _ (by omega) (by omega), r2 _ (by omega) (by omega)]
      exact l3 _ (by omega)
  · have h1 : z * z ≤ 60 * 60 := Nat.mul_le_mul hz.2 hz.2
    have h2 : z * z * z ≤ 60 * 60 * 60 := Nat.mul_le_mul h1 hz.2
    rw [rRc_out (by omega) hlr, rTr_out (by omega) hlf, ← hR2, upR_s, upR_n (by omega), hra, pk_mul, pk_mul, nI_add]
    exact nb.i (Nat.zero_le _) (by omega)
theorem WFr.drop (h : WFr R T B) {d z : Nat} (hz : 1 ≤ z ∧ z ≤ 60) (e47 : R 47 = nI lf) (e108 : R 108 = nI lr) (hlf : lf ≤ 60) (hlr : lr ≤ 40) (hT : T + d < 2 ^ 30) (hB : B < 2 ^ 30) : WFr (rDrM R lf lr (nI d) (nI z)) (T + d) (B + 216000) := by
  rw [rDrM_eq]
  exact (h.go (d := d)).fl hz.2 |>.en hz rFt_lt (by rw [rFl_o (by omega), rGo_o (by omega)]; exact e47) (by rw [rFl_o (by omega), rGo_o (by omega)]; exact e108) hlf hlr hT hB
end P35
def kWg (s : Int64) : Nat → Int64
  | 0 => s
  | n + 1 => kWg s n / 100000
def kWt (f : Nat) : Int32 := if f = 0 then 1000000 else if f = 1 then 10000 else if f = 2 then 100 else 1
def kAfB (d : Int32) : Nat → Bool
  | 0 => true
  | i + 1 => kAfB d i && !(decide (kDg d i - kDg d i / 10 * 10 < 0) || decide (3 < kDg d i - kDg d i / 10 * 10))
theorem kAfB_no {d : Int32} {i : Nat} (h : kDg d i - kDg d i / 10 * 10 < 0 ∨ 3 < kDg d i - kDg d i / 10 * 10) : ∀ {m : Nat}, i < m → kAfB d m = false
  | 0, q => absurd q (by omega)
  | m + 1, q => by
    by_cases e : i = m
    · subst e; rcases h with h | h <;> simp [kAfB, h]
    · simp [kAfB, kAfB_no h (m := m) (by omega)]
def xIsF (t s : Int32) : Prop := ¬ (t < 0 ∨ 99 < t) ∧ ¬ (s < 1 ∨ 60 < s)
def xIsS (w v : Int32) : Prop := ¬ (w < 0 ∨ 4 < w) ∧ ¬ (v < xLeast w.toNatClampNeg ∨ xGreatest w.toNatClampNeg < v)
section C35
variable {E : xEnv} {l : Launch} {x : Bool} {n : Nat} {K : xKnd} {G : xRef} {M : xMem} {L : xLng}
theorem c_X5_isFall {q : xS} (t s : Int32) : Con E l Y_X5_isFall [.int t, .int s] q (xR (some (.int (bI (¬ (t < 0 ∨ 99 < t) ∧ ¬ (s < 1 ∨ 60 < s))))) q) xF := by
  refine Con.mk 0 mp_X5_isFall rfl (ls := [some (.int t), some (.int s)]) rfl (Nat.le_of_ble_eq_true rfl) ?_
  refine V_ild0 dX5_isFall_0 ?_
  refine V_iconst (v := 0) dX5_isFall_1 (by decide) ?_
  refine V_bipush (v := 99) dX5_isFall_2 (by decide) ?_
  refine V_cs3R lk_X5_53 cc_X5_isOutside dX5_isFall_4 (c_X5_isOutside _ _ _) ft_X5_isFall_X5_isOutside rfl rfl (Nat.le_of_ble_eq_true rfl) ?_
  refine V_if_ne (tgt := 24) dX5_isFall_7 (by decide) (fun h7 => ?_) (fun h7 => ?_)
  · refine V_iconst (v := 0) dX5_isFall_24 (by decide) ?_
    exact V_zret rfl dX5_isFall_25 (Or.inl rfl) (by decide) (by decide) ⟨by simp only [bI0, Decidable.not_not] at *; simp [bI, *], rfl⟩
  · refine V_ild1 dX5_isFall_10 ?_
    refine V_iconst (v := 1) dX5_isFall_11 (by decide) ?_
    refine V_bipush (v := 60) dX5_isFall_12 (by decide) ?_
    refine V_cs3R lk_X5_53 cc_X5_isOutside dX5_isFall_14 (c_X5_isOutside _ _ _) ft_X5_isFall_X5_isOutside rfl rfl (Nat.le_of_ble_eq_true rfl) ?_
    refine V_if_ne (tgt := 24) dX5_isFall_17 (by decide) (fun h17 => ?_) (fun h17 => ?_)
    · refine V_iconst (v := 0) dX5_isFall_24 (by decide) ?_
      exact V_zret rfl dX5_isFall_25 (Or.inl rfl) (by decide) (by decide) ⟨by simp only [bI0, Decidable.not_not] at *; simp [bI, *], rfl⟩
    · refine V_iconst (v := 1) dX5_isFall_20 (by decide) ?_
      refine V_goto (tgt := 25) dX5_isFall_21 (by decide) ?_
      exact V_zret rfl dX5_isFall_25 (Or.inr rfl) (by decide) (by decide) ⟨by simp only [bI0, Decidable.not_not] at *; simp [bI, *], rfl⟩
theorem xIdx {w : Int32} {N : Nat} (hN : N < 2 ^ 31) (h0 : ¬ w < 0) (h : ¬ nI N < w) : ∃ k, k ≤ N ∧ w = nI k := by
  obtain ⟨k, k1, k2⟩ := nI_of h0
  subst k2
  exact ⟨k, Nat.not_lt.mp fun z => h (nI_lt z k1), rfl⟩
theorem c_X5_isSetting {q : xS} (w v : Int32) : Con E l Y_X5_isSetting [.int w, .int v] q (xR (some (.int (bI (¬ (w < 0 ∨ 4 < w) ∧ ¬ (v < xLeast w.toNatClampNeg ∨ xGreatest w.toNatClampNeg < v))))) q) xF := by
  refine Con.mk 0 mp_X5_isSetting rfl (ls := [some (.int w), some (.int v)]) rfl (Nat.le_of_ble_eq_true rfl) ?_
  by_cases c : w < 0 ∨ 4 < w
  · refine V_ild0 dX5_isSetting_0 ?_
    refine V_iconst (v := 0) dX5_isSetting_1 (by decide) ?_
    refine V_iconst (v := 4) dX5_isSetting_2 (by decide) ?_
    refine V_cs3R lk_X5_53 cc_X5_isOutside dX5_isSetting_3 (c_X5_isOutside _ _ _) ft_X5_isSetting_X5_isOutside rfl rfl (Nat.le_of_ble_eq_true rfl) ?_
    refine V_if_ne (tgt := 30) dX5_isSetting_6 (by decide) (fun h6 => ?_) (fun h6 => ?_)
    · refine V_iconst (v := 0) dX5_isSetting_30 (by decide) ?_
      exact V_zret rfl dX5_isSetting_31 (Or.inl rfl) (by decide) (by decide) ⟨by simp [bI, c], rfl⟩
    · exact absurd (bIt c) (by rw [h6]; decide)
  · have c' := c
    rw [not_or] at c'
    obtain ⟨k, hk, rfl⟩ := xIdx (N := 4) (by decide) c'.1 c'.2
    have e : (nI k).toNatClampNeg = k := nI_clamp (by omega)
    rw [e]
    refine V_ild0 dX5_isSetting_0 ?_
    refine V_iconst (v := 0) dX5_isSetting_1 (by decide) ?_
    refine V_iconst (v := 4) dX5_isSetting_2 (by decide) ?_
    refine V_cs3R lk_X5_53 cc_X5_isOutside dX5_isSetting_3 (c_X5_isOutside _ _ _) ft_X5_isSetting_X5_isOutside rfl rfl (Nat.le_of_ble_eq_true rfl) ?_
    refine V_if_ne (tgt := 30) dX5_isSetting_6 (by decide) (fun h6 => ?_) (fun h6 => ?_)
    · exact absurd (bIf c) h6
    · refine V_ild1 dX5_isSetting_9 ?_
      refine V_gets (Y := Y_X5_isSetting) (k := 0) (Or.inl ⟨rfl, rfl⟩) mg_X5_275 dX5_isSetting_10 ?_
      refine V_ild0 dX5_isSetting_13 ?_
      refine V_ro0 (j := k) rfl (by omega) dX5_isSetting_14 ?_
      refine V_gets (Y := Y_X5_isSetting) (k := 1) (Or.inr ⟨rfl, rfl⟩) mg_X5_278 dX5_isSetting_15 ?_
      refine V_ild0 dX5_isSetting_18 ?_
      refine V_ro1 (j := k) rfl (by omega) dX5_isSetting_19 ?_
      refine V_cs3R lk_X5_53 cc_X5_isOutside dX5_isSetting_20 (c_X5_isOutside _ _ _) ft_X5_isSetting_X5_isOutside rfl rfl (Nat.le_of_ble_eq_true rfl) ?_
      refine V_if_ne (tgt := 30) dX5_isSetting_23 (by decide) (fun h23 => ?_) (fun h23 => ?_)
      · refine V_iconst (v := 0) dX5_isSetting_30 (by decide) ?_
        exact V_zret rfl dX5_isSetting_31 (Or.inl rfl) (by decide) (by decide) ⟨by simp only [bI0, Decidable.not_not] at h23; simp [bI, c, h23], rfl⟩
      · refine V_iconst (v := 1) dX5_isSetting_26 (by decide) ?_
        refine V_goto (tgt := 31) dX5_isSetting_27 (by decide) ?_
        exact V_zret rfl dX5_isSetting_31 (Or.inr rfl) (by decide) (by decide) ⟨by simp only [bI0, Decidable.not_not] at h23; simp [bI, c, h23], rfl⟩
theorem c_X5_areFates {q : xS} {m : Nat} (hm : m < 1000) (d : Int32) : Con E l Y_X5_areFates [.int (nI m), .int d] q (xR (some (.int (bI (kAfB d m = true ∧ ¬ d < 0 ∧ kDg d m = 0)))) q) xF := by
  refine Con.mk 2 mp_X5_areFates rfl (ls := [some (.int (nI m)), some (.int d), none, none]) rfl (Nat.le_of_ble_eq_true rfl) ?_
  have loop : ∀ (r i : Nat), i + r = m → kAfB d i = true → V E l Y_X5_areFates (xQm E Y_X5_areFates (xR (some (.int (bI (kAfB d m = true ∧ ¬ d < 0 ∧ kDg d m = 0)))) q) xF) q (0, 0) 4 [some (.int (nI m)), some (.int d), some (.int (kDg d i)), some (.int (nI i))] [] := by
    intro r
    induction r with
    | zero =>
      intro i hi hk
      have e : i = m := by omega
      subst e
      refine V_ild3 dX5_areFates_4 ?_
      refine V_ild0 dX5_areFates_5 ?_
      refine V_icmp_ge (tgt := 34) dX5_areFates_6 (by decide) (fun h6 => ?_) (fun h6 => ?_)
      · refine V_ild1 dX5_areFates_34 ?_
        refine V_if_lt (tgt := 46) dX5_areFates_35 (by decide) (fun h35 => ?_) (fun h35 => ?_)
        · refine V_iconst (v := 0) dX5_areFates_46 (by decide) ?_
          exact V_zret rfl dX5_areFates_47 (Or.inl rfl) (by decide) (by decide) ⟨by simp [bI, *], rfl⟩
        · refine V_ild2 dX5_areFates_38 ?_
          refine V_if_ne (tgt := 46) dX5_areFates_39 (by decide) (fun h39 => ?_) (fun h39 => ?_)
          · refine V_iconst (v := 0) dX5_areFates_46 (by decide) ?_
            exact V_zret rfl dX5_areFates_47 (Or.inl rfl) (by decide) (by decide) ⟨by simp [bI, *], rfl⟩
          · refine V_iconst (v := 1) dX5_areFates_42 (by decide) ?_
            refine V_goto (tgt := 47) dX5_areFates_43 (by decide) ?_
            exact V_zret rfl dX5_areFates_47 (Or.inr rfl) (by decide) (by decide) ⟨by simp [bI, *], rfl⟩
      · exact absurd h6 (nI_nlt (Nat.le_refl i) (by omega))
    | succ r ih =>
      intro i hi hk
      refine V_ild3 dX5_areFates_4 ?_
      refine V_ild0 dX5_areFates_5 ?_
      refine V_icmp_ge (tgt := 34) dX5_areFates_6 (by decide) (fun h6 => ?_) (fun h6 => ?_)
      · exact absurd (nI_lt (by omega) (by omega)) h6
      · refine V_ild2 dX5_areFates_9 ?_
        refine V_bipush (v := 10) dX5_areFates_10 (by decide) ?_
        refine V_irem dX5_areFates_12 (by decide) ?_
        refine V_iconst (v := 0) dX5_areFates_13 (by decide) ?_
        refine V_iconst (v := 3) dX5_areFates_14 (by decide) ?_
        refine V_cs3R lk_X5_53 cc_X5_isOutside dX5_areFates_15 (c_X5_isOutside _ _ _) ft_X5_areFates_X5_isOutside rfl rfl (Nat.le_of_ble_eq_true rfl) ?_
        refine V_if_eq (tgt := 23) dX5_areFates_18 (by decide) (fun h18 => ?_) (fun h18 => ?_)
        · refine V_ild2 dX5_areFates_23 ?_
          refine V_bipush (v := 10) dX5_areFates_24 (by decide) ?_
          refine V_idiv dX5_areFates_26 (by decide) ?_
          refine V_ist2 dX5_areFates_27 rfl (by decide) ?_
          refine V_inc3 dX5_areFates_28 rfl (nI_1 i) ?_
          refine V_goto (tgt := 4) dX5_areFates_31 (by decide) ?_
          rw [bI0, not_or] at h18
          exact ih (i + 1) (by omega) (by simp [kAfB, hk, h18])
        · refine V_iconst (v := 0) dX5_areFates_21 (by decide) ?_
          exact V_zret rfl dX5_areFates_22 (Or.inl rfl) (by decide) (by decide) ⟨by simp only [bI0, Decidable.not_not] at h18; simp [bI, kAfB_no h18 (m := m) (by omega)], rfl⟩
  refine V_ild1 dX5_areFates_0 ?_
  refine V_ist2 dX5_areFates_1 rfl (by decide) ?_
  refine V_iconst (v := 0) dX5_areFates_2 (by decide) ?_
  refine V_ist3 dX5_areFates_3 rfl (by decide) ?_
  exact loop m 0 (by omega) rfl
theorem c_X5_withoutLastGroups {q : xS} {m : Nat} (hm : m < 1000) (s : Int64) : Con E l Y_X5_withoutLastGroups [.long s, .int (nI m)] q (xR (some (.long (kWg s m))) q) xF := by
  refine Con.mk 3 mp_X5_withoutLastGroups rfl (ls := [some (.long s), none, some (.int (nI m)), none, none, none]) rfl (Nat.le_of_ble_eq_true rfl) ?_
  have loop : ∀ (r i : Nat), i + r = m → V E l Y_X5_withoutLastGroups (xQm E Y_X5_withoutLastGroups (xR (some (.long (kWg s m))) q) xF) q (0, 0) 5 [some (.long s), none, some (.int (nI m)), some (.long (kWg s i)), none, some (.int (nI i))] [] := by
    intro r
    induction r with
    | zero =>
      intro i hi
      have e : i = m := by omega
      subst e
      refine V_ild5 dX5_withoutLastGroups_5 ?_
      refine V_ild2 dX5_withoutLastGroups_7 ?_
      refine V_icmp_ge (tgt := 23) dX5_withoutLastGroups_8 (by decide) (fun h8 => ?_) (fun h8 => ?_)
      · refine V_lld3 dX5_withoutLastGroups_23 ?_
        exact V_lret rfl dX5_withoutLastGroups_24 (by decide) (by decide) ⟨rfl, rfl⟩
      · exact absurd h8 (nI_nlt (Nat.le_refl i) (by omega))
    | succ r ih =>
      intro i hi
      refine V_ild5 dX5_withoutLastGroups_5 ?_
      refine V_ild2 dX5_withoutLastGroups_7 ?_
      refine V_icmp_ge (tgt := 23) dX5_withoutLastGroups_8 (by decide) (fun h8 => ?_) (fun h8 => ?_)
      · exact absurd (nI_lt (by omega) (by omega)) h8
      · refine V_lld3 dX5_withoutLastGroups_11 ?_
        refine V_ldc2 dX5_withoutLastGroups_12 mk_X5_298 ?_
        refine V_ldiv dX5_withoutLastGroups_15 (by decide) ?_
        refine V_lst3 dX5_withoutLastGroups_16 rfl (by decide) ?_
        refine V_inc5 dX5_withoutLastGroups_17 rfl (nI_1 i) ?_
        refine V_goto (tgt := 5) dX5_withoutLastGroups_20 (by decide) ?_
        exact ih (i + 1) (by omega)
  refine V_lld0 dX5_withoutLastGroups_0 ?_
  refine V_lst3 dX5_withoutLastGroups_1 rfl (by decide) ?_
  refine V_iconst (v := 0) dX5_withoutLastGroups_2 (by decide) ?_
  refine V_ist5 dX5_withoutLastGroups_3 rfl (by decide) ?_
  exact loop m 0 (by omega)
theorem xWt3 {f : Nat} (h0 : ¬ f = 0) (h1 : ¬ f = 1) (h2 : ¬ f = 2) : (some (.int 1) : Option Value) = some (.int (kWt f)) := by simp [kWt, h0, h1, h2]
theorem c_X5_weightOf {q : xS} {f : Nat} (hf : f < 4) : Con E l Y_X5_weightOf [.int (nI f)] q (xR (some (.int (kWt f))) q) xF := by
  refine Con.mk 0 mp_X5_weightOf rfl (ls := [some (.int (nI f))]) rfl (Nat.le_of_ble_eq_true rfl) ?_
  refine V_ild0 dX5_weightOf_0 ?_
  refine V_topi (fun y1 e1 => ?_)
  by_cases s1_0 : y1 = 0
  · subst s1_0
    refine V_tableIn (tgt := 28) dX5_weightOf_1 (by decide) (by decide) (off := 27) (by decide) (by decide) ?_
    refine V_ldcw dX5_weightOf_28 mk_X5_350 ?_
    exact V_iret rfl dX5_weightOf_31 (by decide) (by decide) ⟨by have : f = 0 := ((nI_eq (a := 0) (by omega) (by omega)).mp e1).symm; subst this; rfl, rfl⟩
  by_cases s1_1 : y1 = 1
  · subst s1_1
    refine V_tableIn (tgt := 32) dX5_weightOf_1 (by decide) (by decide) (off := 31) (by decide) (by decide) ?_
    refine V_sipush (v := 10000) dX5_weightOf_32 (by decide) ?_
    exact V_iret rfl dX5_weightOf_35 (by decide) (by decide) ⟨by have : f = 1 := ((nI_eq (a := 1) (by omega) (by omega)).mp e1).symm; subst this; rfl, rfl⟩
  by_cases s1_2 : y1 = 2
  · subst s1_2
    refine V_tableIn (tgt := 36) dX5_weightOf_1 (by decide) (by decide) (off := 35) (by decide) (by decide) ?_
    refine V_bipush (v := 100) dX5_weightOf_36 (by decide) ?_
    exact V_iret rfl dX5_weightOf_38 (by decide) (by decide) ⟨by have : f = 2 := ((nI_eq (a := 2) (by omega) (by omega)).mp e1).symm; subst this; rfl, rfl⟩
  refine V_tableOut (tgt := 39) dX5_weightOf_1 (by have q0 := xne s1_0; have q1 := xne s1_1; have q2 := xne s1_2; simp only [xlit_0, xlit_1, xlit_2] at q0 q1 q2; omega) (by decide) ?_
  refine V_iconst (v := 1) dX5_weightOf_39 (by decide) ?_
  exact V_iret rfl dX5_weightOf_40 (by decide) (by decide) ⟨xWt3 (fun q => s1_0 (by rw [e1, q]; rfl)) (fun q => s1_1 (by rw [e1, q]; rfl)) (fun q => s1_2 (by rw [e1, q]; rfl)), rfl⟩
end C35

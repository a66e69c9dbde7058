/-! ===== the reference as an object: its cells, what they tell; calls that look ===== -/
def rM (n : Nat) (K : xKnd) (G : xRef) (m : Nat) : Prop :=
  xIs n K m 6 12 ∧ G m 1 = some (m + 1) ∧ xIs n K (m + 1) 10 100 ∧ G m 5 = some (m + 2) ∧ xIs n K (m + 2) 10 191 ∧ G m 6 = some (m + 3) ∧ xIs n K (m + 3) 10 191 ∧ G m 7 = some (m + 4) ∧ xIs n K (m + 4) 10 191 ∧
  G m 8 = some (m + 5) ∧ xIs n K (m + 5) 10 2674 ∧ G m 10 = some (m + 6) ∧ xIs n K (m + 6) 10 382 ∧ G m 11 = some (m + 7) ∧ xIs n K (m + 7) 12 2
/-- nothing stands behind a row -/
def Sh (R : xRow) : Prop := ∀ i, 191 ≤ i → R i = 0
def MRel (M : xMem) (m : Nat) (S : xSp) : Prop :=
  (M m 2 = nI S.1 ∧ S.1 ≤ 100) ∧ (∀ i, i < S.1 → M (m + 1) i = S.2.1 i) ∧ M (m + 3) = S.2.2.1 ∧ (Sh S.2.2.1 ∧ Sh (M (m + 2)) ∧ Sh (M (m + 4))) ∧ (M m 9 = nI S.2.2.2.1 ∧ S.2.2.2.1 ≤ 14) ∧
  (∀ j, j < S.2.2.2.1 → Sh (S.2.2.2.2.1 j) ∧ ∀ i, i < 191 → M (m + 5) (191 * (S.2.2.2.1 - 1 - j) + i) = S.2.2.2.2.1 j i) ∧ M (m + 7) 0 = bB (S.2.2.2.2.2.1 0) ∧ M (m + 7) 1 = bB (S.2.2.2.2.2.1 1) ∧
  (∀ j, j < 2 → S.2.2.2.2.2.1 j = true → Sh (S.2.2.2.2.2.2 j) ∧ ∀ i, i < 191 → M (m + 6) (191 * j + i) = S.2.2.2.2.2.2 j i)
def Fm (m : Nat) (M M' : xMem) : Prop := ∀ k, (k < m ∨ m + 7 < k) → M' k = M k
/-- a call of the reference: its code stands in its first number; it answers A if the code is 0 -/
def xN (k : Nat) (A : Int32) (S' : xSp) (m : Nat) (x : Bool) (n : Nat) (K : xKnd) (G : xRef) (M : xMem) (L : xLng) : xP := fun r q' => ∃ b M', r = some (.int b) ∧ (k = 0 → b = A) ∧ q' = (x, n, K, G, M', L) ∧ MRel M' m S' ∧ M' m 0 = nI k ∧ Fm m M M'
def xNl (k : Nat) (A : Int64) (S' : xSp) (m : Nat) (x : Bool) (n : Nat) (K : xKnd) (G : xRef) (M : xMem) (L : xLng) : xP := fun r q' => ∃ b M', r = some (.long b) ∧ (k = 0 → b = A) ∧ q' = (x, n, K, G, M', L) ∧ MRel M' m S' ∧ M' m 0 = nI k ∧ Fm m M M'
section P54
variable {M M' : xMem} {a b m : Nat} {R R' Q : xRow} {T B : Nat} {S : xSp}
theorem Fm.rfl' : Fm m M M := fun _ _ => rfl
theorem Fm.trans {M'' : xMem} (h : Fm m M M') (g : Fm m M' M'') : Fm m M M'' := fun k q => (g k q).trans (h k q)
theorem Fm.up {k i : Nat} {v : Int32} (h : m ≤ k ∧ k ≤ m + 7) : Fm m M (xup M k i v) := fun j q => by funext z; exact xup_k (by omega)
theorem Fm.ro {k : Nat} (h : m ≤ k ∧ k ≤ m + 7) : Fm m M (xro M k R) := fun j q => xro_n (by omega)
theorem MRel.ref (h : MRel M m S) (v : Int32) : MRel (xup M m 0 v) m S := by
  obtain ⟨⟨a1, a2⟩, b, c, ⟨d1, d2, d3⟩, ⟨e1, e2⟩, f, g, i, j⟩ := h
  have o : ∀ k, k ≠ m → xup M m 0 v k = M k := fun k hk => by funext z; exact xup_k hk
  unfold MRel
  rw [o _ (show m + 1 ≠ m by omega), o _ (show m + 2 ≠ m by omega), o _ (show m + 3 ≠ m by omega), o _ (show m + 4 ≠ m by omega), o _ (show m + 5 ≠ m by omega), o _ (show m + 6 ≠ m by omega), o _ (show m + 7 ≠ m by omega), xup_i (show 2 ≠ 0 by decide), xup_i (show 9 ≠ 0 by decide)]
  exact ⟨⟨a1, a2⟩, b, c, ⟨d1, d2, d3⟩, ⟨e1, e2⟩, f, g, i, j⟩
theorem Sh.up (h : Sh R) {i : Nat} (hi : i < 191) (v : Int32) : Sh (upR R i v) := fun j hj => by rw [upR_n (by omega)]; exact h j hj
theorem kdAbout_O {w : Int32} : kdAbout w = kdO w 0 11 := by
  unfold kdAbout kdO
  by_cases c : w < 0 ∨ 11 < w
  · rw [if_pos c, if_neg]
    rintro (q | q | q | q | q | q | q | q | q | q | q | q) <;> subst q <;> revert c <;> decide
  · rw [if_neg c, if_pos]
    have c' := c
    rw [not_or] at c'
    obtain ⟨k, hk, rfl⟩ := xIdx (N := 11) (by decide) c'.1 c'.2
    have hc : k = 0 ∨ k = 1 ∨ k = 2 ∨ k = 3 ∨ k = 4 ∨ k = 5 ∨ k = 6 ∨ k = 7 ∨ k = 8 ∨ k = 9 ∨ k = 10 ∨ k = 11 := by omega
    rcases hc with rfl | rfl | rfl | rfl | rfl | rfl | rfl | rfl | rfl | rfl | rfl | rfl <;> decide
end P54
section C54
variable {E : xEnv} {l : Launch} {x : Bool} {n : Nat} {K : xKnd} {G : xRef} {M : xMem} {L : xLng} {a m T B : Nat} {S : xSp}
theorem c_X6_refused (h : xIs n K m 6 12) (c : Int32) : Con E l Y_X6_refused [.ref m, .int c] (x, n, K, G, M, L) (xR (some (.int (bI (0 < c)))) (x, n, K, G, xup M m 0 c, L)) xF := by
  refine Con.mk 0 mp_X6_refused rfl (ls := [some (.ref m), some (.int c)]) rfl (Nat.le_of_ble_eq_true rfl) ?_
  refine V_ald0 dX6_refused_0 ?_
  refine V_ild1 dX6_refused_1 ?_
  refine V_putI fw_X6_36 dX6_refused_2 (by assumption) rfl ?_
  refine V_ild1 dX6_refused_5 ?_
  refine V_if_le (tgt := 13) dX6_refused_6 (by decide) (fun h6 => ?_) (fun h6 => ?_)
  · refine V_iconst (v := 0) dX6_refused_13 (by decide) ?_
    exact V_zret rfl dX6_refused_14 (Or.inl rfl) (by decide) (by decide) ⟨by simp [bI, *], rfl⟩
  · refine V_iconst (v := 1) dX6_refused_9 (by decide) ?_
    refine V_goto (tgt := 14) dX6_refused_10 (by decide) ?_
    exact V_zret rfl dX6_refused_14 (Or.inr rfl) (by decide) (by decide) ⟨by simp [bI, *], rfl⟩
theorem c_X6_thrown (h : xIs n K m 6 12) : Con E l Y_X6_thrown [.ref m] (x, n, K, G, M, L) (xR (some (.int (M m 0))) (x, n, K, G, M, L)) xF := by
  refine Con.mk 0 mp_X6_thrown rfl (ls := [some (.ref m)]) rfl (Nat.le_of_ble_eq_true rfl) ?_
  refine V_ald0 dX6_thrown_0 ?_
  refine V_getI fd_X6_36 dX6_thrown_1 (by assumption) rfl ?_
  exact V_iret rfl dX6_thrown_4 (by decide) (by decide) ⟨rfl, rfl⟩
theorem c_X6_about (h : rM n K G m) (hc : MRel M m S) (hw : WFr S.2.2.1 T B) (w : Int32) : Con E l Y_X6_about [.ref m, .int w] (x, n, K, G, M, L) (xN (kdO w 0 11) (aAbout S.2.2.1 w) S m x n K G M L) xF := by
  obtain ⟨h0, -, -, -, -, g6, h3, -⟩ := h
  have hr : ∀ v, xup M m 0 v (m + 3) = S.2.2.1 := fun v => by rw [show xup M m 0 v (m + 3) = M (m + 3) from by funext z; exact xup_k (by omega)]; exact hc.2.2.1
  have r3 := hw.r3
  have bad : kdO w 0 11 = 1 → V E l Y_X6_about (xQm E Y_X6_about (xN (kdO w 0 11) (aAbout S.2.2.1 w) S m x n K G M L) xF) (x, n, K, G, M, L) (0, 0) 18 [some (.ref m), some (.int w)] [.int 1, .ref m] := by
    intro kd
    refine V_cv1R lk_X6_93 cc_X6_refused dX6_about_18 (by assumption) (c_X6_refused h0 1) ft_X6_about_X6_refused rfl rfl (Nat.le_of_ble_eq_true rfl) ?_
    refine V_if_eq (tgt := 26) dX6_about_21 (by decide) (fun h21 => ?_) (fun h21 => ?_)
    · exact absurd h21 (by decide)
    · refine V_iconst (v := 0) dX6_about_24 (by decide) ?_
      exact V_iret rfl dX6_about_25 (by decide) (by decide) ⟨_, _, rfl, fun q => absurd (kd.symm.trans q) (by decide), rfl, hc.ref 1, by rw [xup_s, kd]; rfl, Fm.up (by omega)⟩
  have good : kdO w 0 11 = 0 → V E l Y_X6_about (xQm E Y_X6_about (xN (kdO w 0 11) (aAbout S.2.2.1 w) S m x n K G M L) xF) (x, n, K, G, M, L) (0, 0) 18 [some (.ref m), some (.int w)] [.int 0, .ref m] := by
    intro kd
    have fin : ∀ y, y = aAbout S.2.2.1 w → xN (kdO w 0 11) (aAbout S.2.2.1 w) S m x n K G M L (some (.int y)) (x, n, K, G, xup M m 0 0, L) := fun y hy => ⟨_, _, rfl, fun _ => hy, rfl, hc.ref 0, by rw [xup_s, kd]; rfl, Fm.up (by omega)⟩
    have kd2 : ¬ (w < 0 ∨ 11 < w) := fun q => absurd kd (by unfold kdO; rw [if_pos q]; decide)
    rw [not_or] at kd2
    obtain ⟨k, hk, ek⟩ := xIdx (N := 11) (by decide) kd2.1 kd2.2
    refine V_cv1R lk_X6_93 cc_X6_refused dX6_about_18 (by assumption) (c_X6_refused h0 0) ft_X6_about_X6_refused rfl rfl (Nat.le_of_ble_eq_true rfl) ?_
    refine V_if_eq (tgt := 26) dX6_about_21 (by decide) (fun h21 => ?_) (fun h21 => ?_)
    · refine V_ild1 dX6_about_26 ?_
      refine V_topi (fun y27 e27 => ?_)
      by_cases s27_0 : y27 = 0
      · subst s27_0
        refine V_tableIn (tgt := 84) dX6_about_27 (by decide) (by decide) (off := 57) (by decide) (by decide) ?_
        refine V_ald0 dX6_about_84 ?_
        refine V_getR fd_X6_16 dX6_about_85 (by assumption) (by assumption) rfl ?_
        refine V_iconst (v := 0) dX6_about_88 (by decide) ?_
        refine V_iald (j := 0) dX6_about_89 (by assumption) (by decide) (by decide) ?_
        exact V_iret rfl dX6_about_90 (by decide) (by decide) (fin _ (by rw [hr]; unfold aAbout; rw [if_pos e27.symm]))
      by_cases s27_1 : y27 = 1
      · subst s27_1
        refine V_tableIn (tgt := 91) dX6_about_27 (by decide) (by decide) (off := 64) (by decide) (by decide) ?_
        refine V_ald0 dX6_about_91 ?_
        refine V_getR fd_X6_16 dX6_about_92 (by assumption) (by assumption) rfl ?_
        refine V_cs1R lk_X6_131 cc_X6_drops dX6_about_95 (c_X6_drops h3) ft_X6_about_X6_drops rfl rfl (Nat.le_of_ble_eq_true rfl) ?_
        exact V_iret rfl dX6_about_98 (by decide) (by decide) (fin _ (by rw [hr]; simp [aAbout, ← e27]))
      by_cases s27_2 : y27 = 2
      · subst s27_2
        refine V_tableIn (tgt := 99) dX6_about_27 (by decide) (by decide) (off := 72) (by decide) (by decide) ?_
        refine V_ald0 dX6_about_99 ?_
        refine V_getR fd_X6_16 dX6_about_100 (by assumption) (by assumption) rfl ?_
        refine V_bipush (v := 6) dX6_about_103 (by decide) ?_
        refine V_ild1 dX6_about_105 ?_
        refine V_iadd dX6_about_106 ?_
        refine V_iconst (v := 2) dX6_about_107 (by decide) ?_
        refine V_isub dX6_about_108 ?_
        refine V_iald (j := 4 + k) dX6_about_109 (by assumption) (by rw [ek]; rw [show (6 : Int32) + nI k = nI (6 + k) from nI_add 6 k, show nI (6 + k) - 2 = nI (6 + k - 2) from pkSub (b := 2) (by omega)]; congr 1; omega) (by omega) ?_
        exact V_iret rfl dX6_about_110 (by decide) (by decide) (fin _ (by
  rw [hr]
  have kk : nI k = w := ek.symm
  rw [← e27] at kk
  first
  | (have := (nI_eq (b := 2) (by omega) (by decide)).mp kk; subst this; simp [aAbout, ← e27])
  | (have := (nI_eq (b := 3) (by omega) (by decide)).mp kk; subst this; simp [aAbout, ← e27])
  | (have := (nI_eq (b := 4) (by omega) (by decide)).mp kk; subst this; simp [aAbout, ← e27])
  | (have := (nI_eq (b := 5) (by omega) (by decide)).mp kk; subst this; simp [aAbout, ← e27])))
      by_cases s27_3 : y27 = 3
      · subst s27_3
        refine V_tableIn (tgt := 99) dX6_about_27 (by decide) (by decide) (off := 72) (by decide) (by decide) ?_
        refine V_ald0 dX6_about_99 ?_
        refine V_getR fd_X6_16 dX6_about_100 (by assumption) (by assumption) rfl ?_
        refine V_bipush (v := 6) dX6_about_103 (by decide) ?_
        refine V_ild1 dX6_about_105 ?_
        refine V_iadd dX6_about_106 ?_
        refine V_iconst (v := 2) dX6_about_107 (by decide) ?_
        refine V_isub dX6_about_108 ?_
        refine V_iald (j := 4 + k) dX6_about_109 (by assumption) (by rw [ek]; rw [show (6 : Int32) + nI k = nI (6 + k) from nI_add 6 k, show nI (6 + k) - 2 = nI (6 + k - 2) from pkSub (b := 2) (by omega)]; congr 1; omega) (by omega) ?_
        exact V_iret rfl dX6_about_110 (by decide) (by decide) (fin _ (by
  rw [hr]
  have kk : nI k = w := ek.symm
  rw [← e27] at kk
  first
  | (have := (nI_eq (b := 2) (by omega) (by decide)).mp kk; subst this; simp [aAbout, ← e27])
  | (have := (nI_eq (b := 3) (by omega) (by decide)).mp kk; subst this; simp [aAbout, ← e27])
  | (have := (nI_eq (b := 4) (by omega) (by decide)).mp kk; subst this; simp [aAbout, ← e27])
  | (have := (nI_eq (b := 5) (by omega) (by decide)).mp kk; subst this; simp [aAbout, ← e27])))
      by_cases s27_4 : y27 = 4
      · subst s27_4
        refine V_tableIn (tgt := 99) dX6_about_27 (by decide) (by decide) (off := 72) (by decide) (by decide) ?_
        refine V_ald0 dX6_about_99 ?_
        refine V_getR fd_X6_16 dX6_about_100 (by assumption) (by assumption) rfl ?_
        refine V_bipush (v := 6) dX6_about_103 (by decide) ?_
        refine V_ild1 dX6_about_105 ?_
        refine V_iadd dX6_about_106 ?_
        refine V_iconst (v := 2) dX6_about_107 (by decide) ?_
        refine V_isub dX6_about_108 ?_
        refine V_iald (j := 4 + k) dX6_about_109 (by assumption) (by rw [ek]; rw [show (6 : Int32) + nI k = nI (6 + k) from nI_add 6 k, show nI (6 + k) - 2 = nI (6 + k - 2) from pkSub (b := 2) (by omega)]; congr 1; omega) (by omega) ?_
        exact V_iret rfl dX6_about_110 (by decide) (by decide) (fin _ (by
  rw [hr]
  have kk : nI k = w := ek.symm
  rw [← e27] at kk
  first
  | (have := (nI_eq (b := 2) (by omega) (by decide)).mp kk; subst this; simp [aAbout, ← e27])
  | (have := (nI_eq (b := 3) (by omega) (by decide)).mp kk; subst this; simp [aAbout, ← e27])
  | (have := (nI_eq (b := 4) (by omega) (by decide)).mp kk; subst this; simp [aAbout, ← e27])
  | (have := (nI_eq (b := 5) (by omega) (by decide)).mp kk; subst this; simp [aAbout, ← e27])))
      by_cases s27_5 : y27 = 5
      · subst s27_5
        refine V_tableIn (tgt := 99) dX6_about_27 (by decide) (by decide) (off := 72) (by decide) (by decide) ?_
        refine V_ald0 dX6_about_99 ?_
        refine V_getR fd_X6_16 dX6_about_100 (by assumption) (by assumption) rfl ?_
        refine V_bipush (v := 6) dX6_about_103 (by decide) ?_
        refine V_ild1 dX6_about_105 ?_
        refine V_iadd dX6_about_106 ?_
        refine V_iconst (v := 2) dX6_about_107 (by decide) ?_
        refine V_isub dX6_about_108 ?_
        refine V_iald (j := 4 + k) dX6_about_109 (by assumption) (by rw [ek]; rw [show (6 : Int32) + nI k = nI (6 + k) from nI_add 6 k, show nI (6 + k) - 2 = nI (6 + k - 2) from pkSub (b := 2) (by omega)]; congr 1; omega) (by omega) ?_
        exact V_iret rfl dX6_about_110 (by decide) (by decide) (fin _ (by
  rw [hr]
  have kk : nI k = w := ek.symm
  rw [← e27] at kk
  first
  | (have := (nI_eq (b := 2) (by omega) (by decide)).mp kk; subst this; simp [aAbout, ← e27])
  | (have := (nI_eq (b := 3) (by omega) (by decide)).mp kk; subst this; simp [aAbout, ← e27])
  | (have := (nI_eq (b := 4) (by omega) (by decide)).mp kk; subst this; simp [aAbout, ← e27])
  | (have := (nI_eq (b := 5) (by omega) (by decide)).mp kk; subst this; simp [aAbout, ← e27])))
      by_cases s27_6 : y27 = 6
      · subst s27_6
        refine V_tableIn (tgt := 111) dX6_about_27 (by decide) (by decide) (off := 84) (by decide) (by decide) ?_
        refine V_ald0 dX6_about_111 ?_
        refine V_getR fd_X6_16 dX6_about_112 (by assumption) (by assumption) rfl ?_
        refine V_ild1 dX6_about_115 ?_
        refine V_bipush (v := 6) dX6_about_116 (by decide) ?_
        refine V_isub dX6_about_118 ?_
        have k67 : k = 6 ∨ k = 7 := by
          first
          | exact Or.inl ((nI_eq (b := 6) (by omega) (by decide)).mp (ek.symm.trans e27.symm))
          | exact Or.inr ((nI_eq (b := 7) (by omega) (by decide)).mp (ek.symm.trans e27.symm))
        refine V_top (w := .int (nI (k - 6))) (by rw [ek, show nI k - 6 = nI (k - 6) from pkSub (b := 6) (by omega)]) ?_
        refine V_cs2R lk_X6_136 cc_X6_inBins dX6_about_119 (c_X6_inBins h3 (w := k - 6) (by omega)) ft_X6_about_X6_inBins rfl rfl (Nat.le_of_ble_eq_true rfl) ?_
        exact V_iret rfl dX6_about_122 (by decide) (by decide) (fin _ (by
  rw [hr]
  have kk : nI k = w := ek.symm
  rw [← e27] at kk
  first
  | (have := (nI_eq (b := 6) (by omega) (by decide)).mp kk; subst this; simp [aAbout, ← e27])
  | (have := (nI_eq (b := 7) (by omega) (by decide)).mp kk; subst this; simp [aAbout, ← e27])))
      by_cases s27_7 : y27 = 7
      · subst s27_7
        refine V_tableIn (tgt := 111) dX6_about_27 (by decide) (by decide) (off := 84) (by decide) (by decide) ?_
        refine V_ald0 dX6_about_111 ?_
        refine V_getR fd_X6_16 dX6_about_112 (by assumption) (by assumption) rfl ?_
        refine V_ild1 dX6_about_115 ?_
        refine V_bipush (v := 6) dX6_about_116 (by decide) ?_
        refine V_isub dX6_about_118 ?_
        have k67 : k = 6 ∨ k = 7 := by
          first
          | exact Or.inl ((nI_eq (b := 6) (by omega) (by decide)).mp (ek.symm.trans e27.symm))
          | exact Or.inr ((nI_eq (b := 7) (by omega) (by decide)).mp (ek.symm.trans e27.symm))
        refine V_top (w := .int (nI (k - 6))) (by rw [ek, show nI k - 6 = nI (k - 6) from pkSub (b := 6) (by omega)]) ?_
        refine V_cs2R lk_X6_136 cc_X6_inBins dX6_about_119 (c_X6_inBins h3 (w := k - 6) (by omega)) ft_X6_about_X6_inBins rfl rfl (Nat.le_of_ble_eq_true rfl) ?_
        exact V_iret rfl dX6_about_122 (by decide) (by decide) (fin _ (by
  rw [hr]
  have kk : nI k = w := ek.symm
  rw [← e27] at kk
  first
  | (have := (nI_eq (b := 6) (by omega) (by decide)).mp kk; subst this; simp [aAbout, ← e27])
  | (have := (nI_eq (b := 7) (by omega) (by decide)).mp kk; subst this; simp [aAbout, ← e27])))
      by_cases s27_8 : y27 = 8
      · subst s27_8
        refine V_tableIn (tgt := 123) dX6_about_27 (by decide) (by decide) (off := 96) (by decide) (by decide) ?_
        refine V_ald0 dX6_about_123 ?_
        refine V_getR fd_X6_16 dX6_about_124 (by assumption) (by assumption) rfl ?_
        refine V_cs1R lk_X6_68 cc_X6_level dX6_about_127 (c_X6_level h3 (by rw [hr]; exact r3)) ft_X6_about_X6_level rfl rfl (Nat.le_of_ble_eq_true rfl) ?_
        exact V_iret rfl dX6_about_130 (by decide) (by decide) (fin _ (by rw [hr]; simp [aAbout, ← e27]))
      by_cases s27_9 : y27 = 9
      · subst s27_9
        refine V_tableIn (tgt := 131) dX6_about_27 (by decide) (by decide) (off := 104) (by decide) (by decide) ?_
        refine V_ald0 dX6_about_131 ?_
        refine V_getR fd_X6_16 dX6_about_132 (by assumption) (by assumption) rfl ?_
        refine V_bipush (v := 108) dX6_about_135 (by decide) ?_
        refine V_iald (j := 108) dX6_about_137 (by assumption) (by decide) (by decide) ?_
        exact V_iret rfl dX6_about_138 (by decide) (by decide) (fin _ (by rw [hr]; simp [aAbout, ← e27]))
      by_cases s27_10 : y27 = 10
      · subst s27_10
        refine V_tableIn (tgt := 139) dX6_about_27 (by decide) (by decide) (off := 112) (by decide) (by decide) ?_
        refine V_ald0 dX6_about_139 ?_
        refine V_getR fd_X6_16 dX6_about_140 (by assumption) (by assumption) rfl ?_
        refine V_bipush (v := 47) dX6_about_143 (by decide) ?_
        refine V_iald (j := 47) dX6_about_145 (by assumption) (by decide) (by decide) ?_
        exact V_iret rfl dX6_about_146 (by decide) (by decide) (fin _ (by rw [hr]; simp [aAbout, ← e27]))
      refine V_tableOut (tgt := 147) dX6_about_27 (by have q0 := xne s27_0; have q1 := xne s27_1; have q2 := xne s27_2; have q3 := xne s27_3; have q4 := xne s27_4; have q5 := xne s27_5; have q6 := xne s27_6; have q7 := xne s27_7; have q8 := xne s27_8; have q9 := xne s27_9; have q10 := xne s27_10; simp only [xlit_0, xlit_1, xlit_2, xlit_3, xlit_4, xlit_5, xlit_6, xlit_7, xlit_8, xlit_9, xlit_10] at q0 q1 q2 q3 q4 q5 q6 q7 q8 q9 q10; omega) (by decide) ?_
      refine V_ald0 dX6_about_147 ?_
      refine V_getR fd_X6_16 dX6_about_148 (by assumption) (by assumption) rfl ?_
      refine V_bipush (v := 13) dX6_about_151 (by decide) ?_
      refine V_iald (j := 13) dX6_about_153 (by assumption) (by decide) (by decide) ?_
      exact V_iret rfl dX6_about_154 (by decide) (by decide) (fin _ (by rw [hr]; unfold aAbout; rw [← e27, if_neg s27_0, if_neg s27_1, if_neg s27_2, if_neg s27_3, if_neg s27_4, if_neg s27_5, if_neg s27_6, if_neg s27_7, if_neg s27_8, if_neg s27_9, if_neg s27_10]))
    · exact absurd (by decide) h21
  refine Con.mk 0 mp_X6_about rfl (ls := [some (.ref m), some (.int w)]) rfl (Nat.le_of_ble_eq_true rfl) ?_
  refine V_ald0 dX6_about_0 ?_
  refine V_ild1 dX6_about_1 ?_
  refine V_i2l dX6_about_2 ?_
  refine V_lconst (v := 0) dX6_about_3 (by decide) ?_
  refine V_ldc2 dX6_about_4 mk_X6_134 ?_
  refine V_cs3R lk_X6_86 cc_X6_in dX6_about_7 (c_X6_inI w 0 11) ft_X6_about_X6_in rfl rfl (Nat.le_of_ble_eq_true rfl) ?_
  refine V_if_eq (tgt := 17) dX6_about_10 (by decide) (fun h10 => ?_) (fun h10 => ?_)
  · rw [bI0, Decidable.not_not] at h10
    refine V_iconst (v := 1) dX6_about_17 (by decide) ?_
    first
    | (guard_hyp h10 : w < 0 ∨ 11 < w; exact bad (by unfold kdO; rw [if_pos h10]))
    | (guard_hyp h10 : ¬ (w < 0 ∨ 11 < w); exact good (by unfold kdO; rw [if_neg h10]))
  · rw [bI0, Decidable.not_not] at h10
    refine V_iconst (v := 0) dX6_about_13 (by decide) ?_
    refine V_goto (tgt := 18) dX6_about_14 (by decide) ?_
    first
    | (guard_hyp h10 : w < 0 ∨ 11 < w; exact bad (by unfold kdO; rw [if_pos h10]))
    | (guard_hyp h10 : ¬ (w < 0 ∨ 11 < w); exact good (by unfold kdO; rw [if_neg h10]))
end C54

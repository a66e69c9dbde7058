/-! ===== the whole object: the best window; commands on the trial ===== -/
def rCmdB (R : xRow) (k : Nat) : Bool :=
  if k / 10000 = 1 then decide (1 ≤ k % 100 ∧ k % 100 ≤ 60) else if k / 10000 = 2 then decide (k / 1000 % 10 = 0 ∧ k / 100 % 10 = 0 ∧ k % 100 ≠ 0) else if k / 10000 = 3 then decide (kdSet (nI (k / 1000 % 10)) (nI (k % 1000)) = 0)
  else if k / 10000 = 4 then decide (k / 100 % 10 = 0 ∧ k / 1000 % 10 ≤ 3 ∧ ¬ R (6 + k / 1000 % 10) < nI (k % 100)) else if k / 10000 = 5 then decide (k / 1000 % 10 ≤ 7 ∧ ¬ R (23 + 3 * (k / 1000 % 10)) < nI (k % 1000))
  else if k / 10000 = 6 then decide (¬ rLev R (R 0) < nI (k % 10000)) else if k / 10000 = 7 then decide (k % 10000 ≤ 3 ∧ aFate R (R 47).toNatClampNeg 0 = nI (k % 10000)) else if k / 10000 = 8 then decide (nI (k % 10000) = R 13) else false
def rCmdR (R : xRow) (k : Nat) : xRow := if rCmdB R k = true then (if k / 10000 = 1 then rDr R (nI (k / 100 % 100)) (nI (k % 100)) else if k / 10000 = 2 then rGo R (nI (k % 100)) else if k / 10000 = 3 then upR R (1 + k / 1000 % 10) (nI (k % 1000)) else R) else R
def Fs (o : Nat) (M : xMem) (L : xLng) (M' : xMem) (L' : xLng) : Prop := (∀ k i, (k ≤ o + 33 ∨ o + 48 ≤ k) → M' k i = M k i) ∧ ∀ k i, (k ≤ o + 33 ∨ o + 48 ≤ k) → L' k i = L k i
/-- what a command leaves on the trial -/
def xT (b : Bool) (Q : xRow) (o : Nat) (x : Bool) (n : Nat) (K : xKnd) (G : xRef) (M : xMem) (L : xLng) : xP := fun r q' => r = some (.int (bI (b = true))) ∧ ∃ M' L', q' = (x, n, K, G, M', L') ∧ AlE M' L' (o + 33) Q ∧ Fs o M L M' L'
section P42
variable {M M' : xMem} {L L' : xLng} {o s p a b : Nat} {R R' Q : xRow} {T B c w lf v lr : Nat} {S : xSp}
theorem Fs.rfl' : Fs o M L M L := ⟨fun _ _ _ => rfl, fun _ _ _ => rfl⟩
theorem Fs.trans {M'' : xMem} {L'' : xLng} (h : Fs o M L M' L') (g : Fs o M' L' M'' L'') : Fs o M L M'' L'' := ⟨fun k i q => (g.1 k i q).trans (h.1 k i q), fun k i q => (g.2 k i q).trans (h.2 k i q)⟩
theorem Fs.fr (h : Fs o M L M' L') : Fr o M L M' L' := fun k hk => ⟨fun i => h.1 _ _ (by omega), fun i => h.2 _ _ (by omega)⟩
theorem CRel.tri (h : CRel M L o S) (f : Fs o M L M' L') : CRel M' L' o S := h.scr (fun k i q1 _ _ => f.1 _ _ q1) (fun k q => f.2 _ _ q)
theorem pkR (a d : Nat) (ha : a < 2 ^ 31) (h0 : 0 < d) (hd : d < 2 ^ 31) : nI a - nI a / nI d * nI d = nI (a % d) := pk_rem ha h0 hd
theorem pkD (a d : Nat) (ha : a < 2 ^ 31) (h0 : 0 < d) (hd : d < 2 ^ 31) : nI a / nI d = nI (a / d) := pk_div ha h0 hd
theorem rCmdB_1 {k : Nat} (c : k / 10000 = 1) : rCmdB Q k = decide (1 ≤ k % 100 ∧ k % 100 ≤ 60) := by unfold rCmdB; rw [if_pos c]
theorem rCmdB_2 {k : Nat} (c : k / 10000 = 2) : rCmdB Q k = decide (k / 1000 % 10 = 0 ∧ k / 100 % 10 = 0 ∧ k % 100 ≠ 0) := by unfold rCmdB; rw [if_neg (by omega), if_pos c]
theorem rCmdB_3 {k : Nat} (c : k / 10000 = 3) : rCmdB Q k = decide (kdSet (nI (k / 1000 % 10)) (nI (k % 1000)) = 0) := by unfold rCmdB; rw [if_neg (by omega), if_neg (by omega), if_pos c]
theorem rCmdB_4 {k : Nat} (c : k / 10000 = 4) : rCmdB Q k = decide (k / 100 % 10 = 0 ∧ k / 1000 % 10 ≤ 3 ∧ ¬ Q (6 + k / 1000 % 10) < nI (k % 100)) := by unfold rCmdB; rw [if_neg (by omega), if_neg (by omega), if_neg (by omega), if_pos c]
theorem rCmdB_5 {k : Nat} (c : k / 10000 = 5) : rCmdB Q k = decide (k / 1000 % 10 ≤ 7 ∧ ¬ Q (23 + 3 * (k / 1000 % 10)) < nI (k % 1000)) := by unfold rCmdB; rw [if_neg (by omega), if_neg (by omega), if_neg (by omega), if_neg (by omega), if_pos c]
theorem rCmdB_6 {k : Nat} (c : k / 10000 = 6) : rCmdB Q k = decide (¬ rLev Q (Q 0) < nI (k % 10000)) := by unfold rCmdB; rw [if_neg (by omega), if_neg (by omega), if_neg (by omega), if_neg (by omega), if_neg (by omega), if_pos c]
theorem rCmdB_7 {k : Nat} (c : k / 10000 = 7) : rCmdB Q k = decide (k % 10000 ≤ 3 ∧ aFate Q (Q 47).toNatClampNeg 0 = nI (k % 10000)) := by unfold rCmdB; rw [if_neg (by omega), if_neg (by omega), if_neg (by omega), if_neg (by omega), if_neg (by omega), if_neg (by omega), if_pos c]
theorem rCmdB_8 {k : Nat} (c : k / 10000 = 8) : rCmdB Q k = decide (nI (k % 10000) = Q 13) := by unfold rCmdB; rw [if_neg (by omega), if_neg (by omega), if_neg (by omega), if_neg (by omega), if_neg (by omega), if_neg (by omega), if_neg (by omega), if_pos c]
theorem rCmdB_9 {k : Nat} (c : ∀ v, 1 ≤ v → v ≤ 8 → k / 10000 ≠ v) : rCmdB Q k = false := by
  unfold rCmdB; rw [if_neg (c 1 (by decide) (by decide)), if_neg (c 2 (by decide) (by decide)), if_neg (c 3 (by decide) (by decide)), if_neg (c 4 (by decide) (by decide)), if_neg (c 5 (by decide) (by decide)), if_neg (c 6 (by decide) (by decide)), if_neg (c 7 (by decide) (by decide)), if_neg (c 8 (by decide) (by decide))]
theorem rCmdR_no {k : Nat} (h : ¬ rCmdB Q k = true) : rCmdR Q k = Q := by unfold rCmdR; rw [if_neg h]
theorem rCmdR_same {k : Nat} (h : 4 ≤ k / 10000) : rCmdR Q k = Q := by
  unfold rCmdR
  by_cases b : rCmdB Q k = true
  · rw [if_pos b, if_neg (by omega), if_neg (by omega), if_neg (by omega)]
  · rw [if_neg b]
theorem rCmdR_1 {k : Nat} (c : k / 10000 = 1) : rCmdR Q k = if 1 ≤ k % 100 ∧ k % 100 ≤ 60 then rDr Q (nI (k / 100 % 100)) (nI (k % 100)) else Q := by
  unfold rCmdR; rw [rCmdB_1 c]; simp only [decide_eq_true_eq]
  by_cases z : 1 ≤ k % 100 ∧ k % 100 ≤ 60
  · rw [if_pos z, if_pos z, if_pos c]
  · rw [if_neg z, if_neg z]
theorem rCmdR_2 {k : Nat} (c : k / 10000 = 2) (h1 : k / 1000 % 10 = 0) (h2 : k / 100 % 10 = 0) : rCmdR Q k = if k % 100 ≠ 0 then rGo Q (nI (k % 100)) else Q := by
  unfold rCmdR; rw [rCmdB_2 c]; simp only [decide_eq_true_eq, h1, h2, true_and]
  by_cases z : k % 100 ≠ 0
  · rw [if_pos z, if_pos z, if_neg (by omega), if_pos c]
  · rw [if_neg z, if_neg z]
theorem rCmdR_3 {k : Nat} (c : k / 10000 = 3) : rCmdR Q k = if kdSet (nI (k / 1000 % 10)) (nI (k % 1000)) = 0 then upR Q (1 + k / 1000 % 10) (nI (k % 1000)) else Q := by
  unfold rCmdR; rw [rCmdB_3 c]; simp only [decide_eq_true_eq]
  by_cases z : kdSet (nI (k / 1000 % 10)) (nI (k % 1000)) = 0
  · rw [if_pos z, if_pos z, if_neg (by omega), if_neg (by omega), if_pos c]
  · rw [if_neg z, if_neg z]
theorem xT_no {k : Nat} {x : Bool} {n : Nat} {K : xKnd} {G : xRef} (hb : ¬ rCmdB Q k = true) (hA : AlE M L (o + 33) Q) : xT (rCmdB Q k) (rCmdR Q k) o x n K G M L (some (.int 0)) (x, n, K, G, M, L) :=
  ⟨by rw [bIf hb], M, L, rfl, by rw [rCmdR_no hb]; exact hA, Fs.rfl'⟩
theorem xT_yes {k : Nat} {x : Bool} {n : Nat} {K : xKnd} {G : xRef} (hb : rCmdB Q k = true) (h4 : 4 ≤ k / 10000) (hA : AlE M L (o + 33) Q) : xT (rCmdB Q k) (rCmdR Q k) o x n K G M L (some (.int 1)) (x, n, K, G, M, L) :=
  ⟨by rw [bIt hb], M, L, rfl, by rw [rCmdR_same h4]; exact hA, Fs.rfl'⟩
theorem AlE.tk (h : AlE M L s R) : M (s + 1) 0 = R 0 := by obtain ⟨w, lf, v, lr, q⟩ := h; exact q.1.1
end P42
section C42
variable {E : xEnv} {l : Launch} {x : Bool} {n : Nat} {K : xKnd} {G : xRef} {M : xMem} {L : xLng} {o T B : Nat} {S : xSp} {Q : xRow}
theorem c_X5_scriptedFall (h : rX n K G o) (hA : AlE M L (o + 33) Q) (hw : WFr Q T B) (hT : T ≤ 10000000) (hB : B < 2 ^ 30) {d z : Nat} (hd : d ≤ 99) (hz : z ≤ 99) :
    Con E l Y_X5_scriptedFall [.ref o, .int (nI d), .int (nI z)] (x, n, K, G, M, L) (xT (decide (1 ≤ z ∧ z ≤ 60)) (if 1 ≤ z ∧ z ≤ 60 then rDr Q (nI d) (nI z) else Q) o x n K G M L) xF := by
  obtain ⟨h0, -, -, -, -, -, -, g3, h3, -⟩ := h
  have h30 := h3.1
  have key : (¬ (nI d < 0 ∨ 99 < nI d) ∧ ¬ (nI z < 1 ∨ 60 < nI z)) ↔ (1 ≤ z ∧ z ≤ 60) := by
    rw [not_or, not_or, show (99 : Int32) < nI d ↔ 99 < d from nI_ltI (by decide) (by omega), show nI z < 1 ↔ z < 1 from nI_ltI (by omega) (by decide), show (60 : Int32) < nI z ↔ 60 < z from nI_ltI (by decide) (by omega)]
    exact ⟨fun q => by omega, fun q => ⟨⟨nI_pos (by omega), by omega⟩, by omega, by omega⟩⟩
  refine Con.mk 0 mp_X5_scriptedFall rfl (ls := [some (.ref o), some (.int (nI d)), some (.int (nI z))]) rfl (Nat.le_of_ble_eq_true rfl) ?_
  refine V_ild1 dX5_scriptedFall_0 ?_
  refine V_ild2 dX5_scriptedFall_1 ?_
  refine V_cs2R lk_X5_217 cc_X5_isFall dX5_scriptedFall_2 (c_X5_isFall _ _) ft_X5_scriptedFall_X5_isFall rfl rfl (Nat.le_of_ble_eq_true rfl) ?_
  refine V_if_ne (tgt := 10) dX5_scriptedFall_5 (by decide) (fun h5 => ?_) (fun h5 => ?_)
  · rw [bI0, Decidable.not_not, key] at h5
    obtain ⟨w, lf, v, lr, i1, i2, i3, i4⟩ := AlE.fall hA hw (d := d) (z := z) (by omega) h5 hT hB
    refine V_ald0 dX5_scriptedFall_10 ?_
    refine V_getR fd_X5_26 dX5_scriptedFall_11 (by assumption) (by assumption) rfl ?_
    refine V_ild1 dX5_scriptedFall_14 ?_
    refine V_ild2 dX5_scriptedFall_15 ?_
    refine V_cv2R lk_X5_225 cc_X3_letFall dX5_scriptedFall_16 (by assumption) (c_X3_letFall h3 i1 _ _ i2 rFt_lt) ft_X5_scriptedFall_X3_letFall rfl rfl (Nat.le_of_ble_eq_true rfl) ?_
    refine V_pop dX5_scriptedFall_19 rfl ?_
    refine V_iconst (v := 1) dX5_scriptedFall_20 (by decide) ?_
    exact V_zret rfl dX5_scriptedFall_21 (Or.inr rfl) (by decide) (by decide) ⟨by rw [bIt (by simp only [decide_eq_true_eq]; exact h5)], _, _, rfl, by rw [if_pos h5]; exact i3, fun k i q => kFallM_k (by omega), fun k i q => kEntL_k (by omega)⟩
  · rw [bI0, key] at h5
    refine V_iconst (v := 0) dX5_scriptedFall_8 (by decide) ?_
    exact V_zret rfl dX5_scriptedFall_9 (Or.inl rfl) (by decide) (by decide) ⟨by rw [bIf (by simp only [decide_eq_true_eq]; exact h5)], _, _, rfl, by rw [if_neg h5]; exact hA, Fs.rfl'⟩
theorem c_X5_scriptedPass (h : rX n K G o) (hA : AlE M L (o + 33) Q) (hw : WFr Q T B) {d : Nat} (hd : d ≤ 99) :
    Con E l Y_X5_scriptedPass [.ref o, .int (nI d)] (x, n, K, G, M, L) (xT (decide (d ≠ 0)) (if d ≠ 0 then rGo Q (nI d) else Q) o x n K G M L) xF := by
  obtain ⟨h0, -, -, -, -, -, -, g3, ⟨h30, gp, hp, -⟩, -⟩ := h
  have hp0 := hp.1
  have key : ¬ (nI d < 1 ∨ 99 < nI d) ↔ d ≠ 0 := by
    rw [not_or, show (99 : Int32) < nI d ↔ 99 < d from nI_ltI (by decide) (by omega), show nI d < 1 ↔ d < 1 from nI_ltI (by omega) (by decide)]
    omega
  refine Con.mk 0 mp_X5_scriptedPass rfl (ls := [some (.ref o), some (.int (nI d))]) rfl (Nat.le_of_ble_eq_true rfl) ?_
  refine V_ild1 dX5_scriptedPass_0 ?_
  refine V_iconst (v := 1) dX5_scriptedPass_1 (by decide) ?_
  refine V_bipush (v := 99) dX5_scriptedPass_2 (by decide) ?_
  refine V_cs3R lk_X5_53 cc_X5_isOutside dX5_scriptedPass_4 (c_X5_isOutside _ _ _) ft_X5_scriptedPass_X5_isOutside rfl rfl (Nat.le_of_ble_eq_true rfl) ?_
  refine V_if_eq (tgt := 12) dX5_scriptedPass_7 (by decide) (fun h7 => ?_) (fun h7 => ?_)
  · rw [bI0, key] at h7
    refine V_ald0 dX5_scriptedPass_12 ?_
    refine V_getR fd_X5_26 dX5_scriptedPass_13 (by assumption) (by assumption) rfl ?_
    refine V_getR fd_X5_109 dX5_scriptedPass_16 (by assumption) (by assumption) rfl ?_
    refine V_ild1 dX5_scriptedPass_19 ?_
    refine V_cv1U lk_X5_230 cc_X2_letPass dX5_scriptedPass_20 (by assumption) (c_X2_letPass hp _) ft_X5_scriptedPass_X2_letPass rfl rfl (Nat.le_of_ble_eq_true rfl) ?_
    refine V_iconst (v := 1) dX5_scriptedPass_23 (by decide) ?_
    exact V_zret rfl dX5_scriptedPass_24 (Or.inr rfl) (by decide) (by decide) ⟨by rw [bIt (by simp only [decide_eq_true_eq]; exact h7)], _, _, rfl, by rw [if_pos h7]; exact (hA.pass hw ⟨by omega, by omega⟩).1, fun k i q => kPass_k (by omega), fun k i q => rfl⟩
  · rw [bI0, key] at h7
    refine V_iconst (v := 0) dX5_scriptedPass_10 (by decide) ?_
    exact V_zret rfl dX5_scriptedPass_11 (Or.inl rfl) (by decide) (by decide) ⟨by rw [bIf (by simp only [decide_eq_true_eq]; exact h7)], _, _, rfl, by rw [if_neg h7]; exact hA, Fs.rfl'⟩
theorem c_X5_scriptedSetting (h : rX n K G o) (hA : AlE M L (o + 33) Q) {w : Nat} (hw : w < 10) (v : Int32) :
    Con E l Y_X5_scriptedSetting [.ref o, .int (nI w), .int v] (x, n, K, G, M, L) (xT (decide (kdSet (nI w) v = 0)) (if kdSet (nI w) v = 0 then upR Q (1 + w) v else Q) o x n K G M L) xF := by
  obtain ⟨h0, -, -, -, -, -, -, g3, ⟨h30, gp, hp, -⟩, -⟩ := h
  obtain ⟨hp0, gs, hss, -⟩ := hp
  have key : (¬ (nI w < 0 ∨ 4 < nI w) ∧ ¬ (v < xLeast (nI w).toNatClampNeg ∨ xGreatest (nI w).toNatClampNeg < v)) ↔ kdSet (nI w) v = 0 := by
    unfold kdSet
    constructor
    · intro q; rw [if_pos q]
    · intro q; split at q; assumption; exact absurd q (by decide)
  refine Con.mk 0 mp_X5_scriptedSetting rfl (ls := [some (.ref o), some (.int (nI w)), some (.int v)]) rfl (Nat.le_of_ble_eq_true rfl) ?_
  refine V_ild1 dX5_scriptedSetting_0 ?_
  refine V_ild2 dX5_scriptedSetting_1 ?_
  refine V_cs2R lk_X5_233 cc_X5_isSetting dX5_scriptedSetting_2 (c_X5_isSetting _ _) ft_X5_scriptedSetting_X5_isSetting rfl rfl (Nat.le_of_ble_eq_true rfl) ?_
  refine V_if_ne (tgt := 10) dX5_scriptedSetting_5 (by decide) (fun h5 => ?_) (fun h5 => ?_)
  · rw [bI0, Decidable.not_not] at h5
    have h5' := h5.1
    rw [key] at h5
    rw [not_or, show (4 : Int32) < nI w ↔ 4 < w from nI_ltI (by decide) (by omega)] at h5'
    refine V_ald0 dX5_scriptedSetting_10 ?_
    refine V_getR fd_X5_26 dX5_scriptedSetting_11 (by assumption) (by assumption) rfl ?_
    refine V_getR fd_X5_109 dX5_scriptedSetting_14 (by assumption) (by assumption) rfl ?_
    refine V_getR fd_X5_152 dX5_scriptedSetting_17 (by assumption) (by assumption) rfl ?_
    refine V_ild1 dX5_scriptedSetting_20 ?_
    refine V_ild2 dX5_scriptedSetting_21 ?_
    refine V_iast (j := w) dX5_scriptedSetting_22 (by assumption) rfl (by omega) ?_
    refine V_iconst (v := 1) dX5_scriptedSetting_23 (by decide) ?_
    exact V_zret rfl dX5_scriptedSetting_24 (Or.inr rfl) (by decide) (by decide) ⟨by rw [bIt (by simp only [decide_eq_true_eq]; exact h5)], _, _, rfl, by rw [if_pos h5]; exact hA.set (by omega) v, fun k i q => xup_k (by omega), fun k i q => rfl⟩
  · rw [bI0, key] at h5
    refine V_iconst (v := 0) dX5_scriptedSetting_8 (by decide) ?_
    exact V_zret rfl dX5_scriptedSetting_9 (Or.inl rfl) (by decide) (by decide) ⟨by rw [bIf (by simp only [decide_eq_true_eq]; exact h5)], _, _, rfl, by rw [if_neg h5]; exact hA, Fs.rfl'⟩
theorem c_X5_runCommand (h : rX n K G o) (hA : AlE M L (o + 33) Q) (hw : WFr Q T B) (hT : T ≤ 10000000) (hB : B < 2 ^ 30) {k : Nat} (hk : k < 100000) :
    Con E l Y_X5_runCommand [.ref o, .int (nI k)] (x, n, K, G, M, L) (xT (rCmdB Q k) (rCmdR Q k) o x n K G M L) xF := by
  have hr := h
  obtain ⟨h0, -, -, -, -, -, -, g3, ⟨h30, gp, hp, ga, ha⟩, -⟩ := h
  have hpl := hp
  obtain ⟨hp0, gs, hss, -, -, g9, h9, -⟩ := hp
  have haa := ha
  obtain ⟨ha0, -, -, gf, hf, -⟩ := ha
  have hf0 := hf.1
  have e1 : nI k / 10000 = nI (k / 10000) := pkD k 10000 (by omega) (by decide) (by decide)
  have e2 : nI k / 1000 - nI k / 1000 / 10 * 10 = nI (k / 1000 % 10) := by rw [show nI k / 1000 = nI (k / 1000) from pkD k 1000 (by omega) (by decide) (by decide)]; exact pkR _ 10 (by omega) (by decide) (by decide)
  have e3 : nI k / 100 - nI k / 100 / 10 * 10 = nI (k / 100 % 10) := by rw [show nI k / 100 = nI (k / 100) from pkD k 100 (by omega) (by decide) (by decide)]; exact pkR _ 10 (by omega) (by decide) (by decide)
  have e4 : nI k - nI k / 100 * 100 = nI (k % 100) := pkR k 100 (by omega) (by decide) (by decide)
  have e5 : nI k - nI k / 1000 * 1000 = nI (k % 1000) := pkR k 1000 (by omega) (by decide) (by decide)
  have e6 : nI k - nI k / 10000 * 10000 = nI (k % 10000) := pkR k 10000 (by omega) (by decide) (by decide)
  have e7 : nI (k % 10000) / 100 = nI (k / 100 % 100) := by rw [show nI (k % 10000) / 100 = nI (k % 10000 / 100) from pkD _ 100 (by omega) (by decide) (by decide), show k % 10000 / 100 = k / 100 % 100 by omega]
  have z2 : nI (k / 1000 % 10) = 0 ↔ k / 1000 % 10 = 0 := nI_eq (b := 0) (by omega) (by decide)
  have z3 : nI (k / 100 % 10) = 0 ↔ k / 100 % 10 = 0 := nI_eq (b := 0) (by omega) (by decide)
  have y3 : (3 : Int32) < nI (k / 1000 % 10) ↔ 3 < k / 1000 % 10 := nI_ltI (a := 3) (by decide) (by omega)
  have y7 : (7 : Int32) < nI (k / 1000 % 10) ↔ 7 < k / 1000 % 10 := nI_ltI (a := 7) (by decide) (by omega)
  have y9 : (3 : Int32) < nI (k % 10000) ↔ 3 < k % 10000 := nI_ltI (a := 3) (by decide) (by omega)
  obtain ⟨w, lf, v, lr, hal⟩ := id hA
  obtain ⟨aP, aQ⟩ := hal
  have i1 := aQ.1.1
  have l60 : lf ≤ 60 := i1.2.2.2
  have e47 : (Q 47).toNatClampNeg = lf := by rw [aQ.2.2.2.2.1, nI_clamp (by omega)]
  have lv := hA.lev0 hw (by omega)
  have tk := hA.tk
  have key1 : ∀ v, v < 9 → (v : Nat) = k / 10000 → ∀ {y : Int32}, y = nI (k / 10000) → y = nI v := fun v _ e y q => by rw [q, e]
  refine Con.mk 6 mp_X5_runCommand rfl (ls := [some (.ref o), some (.int (nI k)), none, none, none, none, none, none]) rfl (Nat.le_of_ble_eq_true rfl) ?_
  refine V_ild1 dX5_runCommand_0 ?_
  refine V_sipush (v := 1000) dX5_runCommand_1 (by decide) ?_
  refine V_idiv dX5_runCommand_4 (by decide) ?_
  refine V_bipush (v := 10) dX5_runCommand_5 (by decide) ?_
  refine V_irem dX5_runCommand_7 (by decide) ?_
  rw [e2]
  refine V_ist2 dX5_runCommand_8 rfl (by decide) ?_
  refine V_ild1 dX5_runCommand_9 ?_
  refine V_bipush (v := 100) dX5_runCommand_10 (by decide) ?_
  refine V_idiv dX5_runCommand_12 (by decide) ?_
  refine V_bipush (v := 10) dX5_runCommand_13 (by decide) ?_
  refine V_irem dX5_runCommand_15 (by decide) ?_
  rw [e3]
  refine V_ist3 dX5_runCommand_16 rfl (by decide) ?_
  refine V_ild1 dX5_runCommand_17 ?_
  refine V_bipush (v := 100) dX5_runCommand_18 (by decide) ?_
  refine V_irem dX5_runCommand_20 (by decide) ?_
  rw [e4]
  refine V_ist4 dX5_runCommand_21 rfl (by decide) ?_
  refine V_ild1 dX5_runCommand_23 ?_
  refine V_sipush (v := 1000) dX5_runCommand_24 (by decide) ?_
  refine V_irem dX5_runCommand_27 (by decide) ?_
  rw [e5]
  refine V_ist5 dX5_runCommand_28 rfl (by decide) ?_
  refine V_ild1 dX5_runCommand_30 ?_
  refine V_sipush (v := 10000) dX5_runCommand_31 (by decide) ?_
  refine V_irem dX5_runCommand_34 (by decide) ?_
  rw [e6]
  refine V_ist6 dX5_runCommand_35 rfl (by decide) ?_
  refine V_ald0 dX5_runCommand_37 ?_
  refine V_getR fd_X5_26 dX5_runCommand_38 (by assumption) (by assumption) rfl ?_
  refine V_getR fd_X5_109 dX5_runCommand_41 (by assumption) (by assumption) rfl ?_
  refine V_ast7 dX5_runCommand_44 rfl (by decide) ?_
  refine V_ild1 dX5_runCommand_46 ?_
  refine V_sipush (v := 10000) dX5_runCommand_47 (by decide) ?_
  refine V_idiv dX5_runCommand_50 (by decide) ?_
  rw [e1]
  refine V_topi (fun y51 e51 => ?_)
  by_cases s51_1 : y51 = 1
  · subst s51_1
    refine V_tableIn (tgt := 96) dX5_runCommand_51 (by decide) (by decide) (off := 45) (by decide) (by decide) ?_
    have c1 : k / 10000 = 1 := ((nI_eq (a := 1) (by decide) (by omega)).mp e51).symm
    refine V_ald0 dX5_runCommand_96 ?_
    refine V_ild6 dX5_runCommand_97 ?_
    refine V_bipush (v := 100) dX5_runCommand_99 (by decide) ?_
    refine V_idiv dX5_runCommand_101 (by decide) ?_
    rw [e7]
    refine V_ild4 dX5_runCommand_102 ?_
    refine V_cv2P lk_X5_341 cc_X5_scriptedFall dX5_runCommand_104 (by assumption) (c_X5_scriptedFall hr hA hw hT hB (d := k / 100 % 100) (z := k % 100) (by omega) (by omega)) ft_X5_runCommand_X5_scriptedFall (Nat.le_of_ble_eq_true rfl) (fun o9 q9 hq9 => ?_)
    obtain ⟨rfl, M1, L1, rfl, a1, f1⟩ := hq9
    show V E l _ _ _ (0, 0) 107 _ [_]
    exact V_zret rfl dX5_runCommand_107 (bI01 _) (by decide) (by decide) ⟨by rw [rCmdB_1 c1], _, _, rfl, by rw [rCmdR_1 c1]; exact a1, f1⟩
  by_cases s51_2 : y51 = 2
  · subst s51_2
    refine V_tableIn (tgt := 108) dX5_runCommand_51 (by decide) (by decide) (off := 57) (by decide) (by decide) ?_
    have c1 : k / 10000 = 2 := ((nI_eq (a := 2) (by decide) (by omega)).mp e51).symm
    refine V_ild2 dX5_runCommand_108 ?_
    refine V_if_ne (tgt := 129) dX5_runCommand_109 (by decide) (fun h109 => ?_) (fun h109 => ?_)
    · refine V_iconst (v := 0) dX5_runCommand_129 (by decide) ?_
      exact V_zret rfl dX5_runCommand_130 (Or.inl rfl) (by decide) (by decide) (by
  first
  | exact xT_no (by rw [rCmdB_2 c1, decide_eq_true_eq]; exact fun q => h109 (z2.mpr q.1)) hA
  | exact xT_no (by rw [rCmdB_2 c1, decide_eq_true_eq]; exact fun q => h113 (z3.mpr q.2.1)) hA
  | exact ⟨by rw [hb, h122], _, _, rfl, a1, f1⟩
  | exact ⟨by rw [hb, bIt (by rw [bI0, Decidable.not_not] at h122; exact h122)], _, _, rfl, a1, f1⟩)
    · refine V_ild3 dX5_runCommand_112 ?_
      refine V_if_ne (tgt := 129) dX5_runCommand_113 (by decide) (fun h113 => ?_) (fun h113 => ?_)
      · refine V_iconst (v := 0) dX5_runCommand_129 (by decide) ?_
        exact V_zret rfl dX5_runCommand_130 (Or.inl rfl) (by decide) (by decide) (by
  first
  | exact xT_no (by rw [rCmdB_2 c1, decide_eq_true_eq]; exact fun q => h109 (z2.mpr q.1)) hA
  | exact xT_no (by rw [rCmdB_2 c1, decide_eq_true_eq]; exact fun q => h113 (z3.mpr q.2.1)) hA
  | exact ⟨by rw [hb, h122], _, _, rfl, a1, f1⟩
  | exact ⟨by rw [hb, bIt (by rw [bI0, Decidable.not_not] at h122; exact h122)], _, _, rfl, a1, f1⟩)
      · refine V_ald0 dX5_runCommand_116 ?_
        refine V_ild4 dX5_runCommand_117 ?_
        refine V_cv1P lk_X5_344 cc_X5_scriptedPass dX5_runCommand_119 (by assumption) (c_X5_scriptedPass hr hA hw (d := k % 100) (by omega)) ft_X5_runCommand_X5_scriptedPass (Nat.le_of_ble_eq_true rfl) (fun o9 q9 hq9 => ?_)
        obtain ⟨rfl, M1, L1, rfl, a1, f1⟩ := hq9
        have hb : rCmdB Q k = decide (k % 100 ≠ 0) := by rw [rCmdB_2 c1]; simp only [z2.mp h109, z3.mp h113, true_and]
        rw [← rCmdR_2 c1 (z2.mp h109) (z3.mp h113)] at a1
        show V E l _ _ _ (0, 0) 122 _ [_]
        refine V_if_eq (tgt := 129) dX5_runCommand_122 (by decide) (fun h122 => ?_) (fun h122 => ?_)
        · refine V_iconst (v := 0) dX5_runCommand_129 (by decide) ?_
          exact V_zret rfl dX5_runCommand_130 (Or.inl rfl) (by decide) (by decide) (by
  first
  | exact xT_no (by rw [rCmdB_2 c1, decide_eq_true_eq]; exact fun q => h109 (z2.mpr q.1)) hA
  | exact xT_no (by rw [rCmdB_2 c1, decide_eq_true_eq]; exact fun q => h113 (z3.mpr q.2.1)) hA
  | exact ⟨by rw [hb, h122], _, _, rfl, a1, f1⟩
  | exact ⟨by rw [hb, bIt (by rw [bI0, Decidable.not_not] at h122; exact h122)], _, _, rfl, a1, f1⟩)
        · refine V_iconst (v := 1) dX5_runCommand_125 (by decide) ?_
          refine V_goto (tgt := 130) dX5_runCommand_126 (by decide) ?_
          exact V_zret rfl dX5_runCommand_130 (Or.inr rfl) (by decide) (by decide) (by
  first
  | exact xT_no (by rw [rCmdB_2 c1, decide_eq_true_eq]; exact fun q => h109 (z2.mpr q.1)) hA
  | exact xT_no (by rw [rCmdB_2 c1, decide_eq_true_eq]; exact fun q => h113 (z3.mpr q.2.1)) hA
  | exact ⟨by rw [hb, h122], _, _, rfl, a1, f1⟩
  | exact ⟨by rw [hb, bIt (by rw [bI0, Decidable.not_not] at h122; exact h122)], _, _, rfl, a1, f1⟩)
  by_cases s51_3 : y51 = 3
  · subst s51_3
    refine V_tableIn (tgt := 131) dX5_runCommand_51 (by decide) (by decide) (off := 80) (by decide) (by decide) ?_
    have c1 : k / 10000 = 3 := ((nI_eq (a := 3) (by decide) (by omega)).mp e51).symm
    refine V_ald0 dX5_runCommand_131 ?_
    refine V_ild2 dX5_runCommand_132 ?_
    refine V_ild5 dX5_runCommand_133 ?_
    refine V_cv2P lk_X5_347 cc_X5_scriptedSetting dX5_runCommand_135 (by assumption) (c_X5_scriptedSetting hr hA (w := k / 1000 % 10) (by omega) _) ft_X5_runCommand_X5_scriptedSetting (Nat.le_of_ble_eq_true rfl) (fun o9 q9 hq9 => ?_)
    obtain ⟨rfl, M1, L1, rfl, a1, f1⟩ := hq9
    show V E l _ _ _ (0, 0) 138 _ [_]
    exact V_zret rfl dX5_runCommand_138 (bI01 _) (by decide) (by decide) ⟨by rw [rCmdB_3 c1], _, _, rfl, by rw [rCmdR_3 c1]; exact a1, f1⟩
  by_cases s51_4 : y51 = 4
  · subst s51_4
    refine V_tableIn (tgt := 139) dX5_runCommand_51 (by decide) (by decide) (off := 88) (by decide) (by decide) ?_
    have c1 : k / 10000 = 4 := ((nI_eq (a := 4) (by decide) (by omega)).mp e51).symm
    refine V_ild3 dX5_runCommand_139 ?_
    refine V_if_ne (tgt := 168) dX5_runCommand_140 (by decide) (fun h140 => ?_) (fun h140 => ?_)
    · refine V_iconst (v := 0) dX5_runCommand_168 (by decide) ?_
      exact V_zret rfl dX5_runCommand_169 (Or.inl rfl) (by decide) (by decide) (by
  first
  | exact xT_no (by rw [rCmdB_4 c1, decide_eq_true_eq]; exact fun q => h140 (z3.mpr q.1)) hA
  | exact xT_no (by rw [rCmdB_4 c1, decide_eq_true_eq]; exact fun q => absurd (y3.mp h145) (by omega)) hA
  | exact xT_no (by rw [rCmdB_4 c1, decide_eq_true_eq, ← e9]; exact fun q => q.2.2 h161) hA
  | exact xT_yes (by rw [rCmdB_4 c1, decide_eq_true_eq, ← e9]; exact ⟨z3.mp h140, by omega, h161⟩) (by omega) hA)
    · refine V_ild2 dX5_runCommand_143 ?_
      refine V_iconst (v := 3) dX5_runCommand_144 (by decide) ?_
      refine V_icmp_gt (tgt := 168) dX5_runCommand_145 (by decide) (fun h145 => ?_) (fun h145 => ?_)
      · refine V_iconst (v := 0) dX5_runCommand_168 (by decide) ?_
        exact V_zret rfl dX5_runCommand_169 (Or.inl rfl) (by decide) (by decide) (by
  first
  | exact xT_no (by rw [rCmdB_4 c1, decide_eq_true_eq]; exact fun q => h140 (z3.mpr q.1)) hA
  | exact xT_no (by rw [rCmdB_4 c1, decide_eq_true_eq]; exact fun q => absurd (y3.mp h145) (by omega)) hA
  | exact xT_no (by rw [rCmdB_4 c1, decide_eq_true_eq, ← e9]; exact fun q => q.2.2 h161) hA
  | exact xT_yes (by rw [rCmdB_4 c1, decide_eq_true_eq, ← e9]; exact ⟨z3.mp h140, by omega, h161⟩) (by omega) hA)
      · rw [y3] at h145
        have e9 : M (o + 33 + 7 + 1) (k / 1000 % 10) = Q (6 + k / 1000 % 10) := aQ.2.1 _ (by omega)
        refine V_ald0 dX5_runCommand_148 ?_
        refine V_getR fd_X5_26 dX5_runCommand_149 (by assumption) (by assumption) rfl ?_
        refine V_getR fd_X5_100 dX5_runCommand_152 (by assumption) (by assumption) rfl ?_
        refine V_ild2 dX5_runCommand_155 ?_
        refine V_cv1R lk_X5_118 cc_X0_countOf dX5_runCommand_156 (by assumption) (c_X0_countOf (f := k / 1000 % 10) haa (by omega)) ft_X5_runCommand_X0_countOf rfl rfl (Nat.le_of_ble_eq_true rfl) ?_
        refine V_ild4 dX5_runCommand_159 ?_
        refine V_icmp_lt (tgt := 168) dX5_runCommand_161 (by decide) (fun h161 => ?_) (fun h161 => ?_)
        · refine V_iconst (v := 0) dX5_runCommand_168 (by decide) ?_
          exact V_zret rfl dX5_runCommand_169 (Or.inl rfl) (by decide) (by decide) (by
  first
  | exact xT_no (by rw [rCmdB_4 c1, decide_eq_true_eq]; exact fun q => h140 (z3.mpr q.1)) hA
  | exact xT_no (by rw [rCmdB_4 c1, decide_eq_true_eq]; exact fun q => absurd (y3.mp h145) (by omega)) hA
  | exact xT_no (by rw [rCmdB_4 c1, decide_eq_true_eq, ← e9]; exact fun q => q.2.2 h161) hA
  | exact xT_yes (by rw [rCmdB_4 c1, decide_eq_true_eq, ← e9]; exact ⟨z3.mp h140, by omega, h161⟩) (by omega) hA)
        · refine V_iconst (v := 1) dX5_runCommand_164 (by decide) ?_
          refine V_goto (tgt := 169) dX5_runCommand_165 (by decide) ?_
          exact V_zret rfl dX5_runCommand_169 (Or.inr rfl) (by decide) (by decide) (by
  first
  | exact xT_no (by rw [rCmdB_4 c1, decide_eq_true_eq]; exact fun q => h140 (z3.mpr q.1)) hA
  | exact xT_no (by rw [rCmdB_4 c1, decide_eq_true_eq]; exact fun q => absurd (y3.mp h145) (by omega)) hA
  | exact xT_no (by rw [rCmdB_4 c1, decide_eq_true_eq, ← e9]; exact fun q => q.2.2 h161) hA
  | exact xT_yes (by rw [rCmdB_4 c1, decide_eq_true_eq, ← e9]; exact ⟨z3.mp h140, by omega, h161⟩) (by omega) hA)
  by_cases s51_5 : y51 = 5
  · subst s51_5
    refine V_tableIn (tgt := 170) dX5_runCommand_51 (by decide) (by decide) (off := 119) (by decide) (by decide) ?_
    have c1 : k / 10000 = 5 := ((nI_eq (a := 5) (by decide) (by omega)).mp e51).symm
    refine V_ild2 dX5_runCommand_170 ?_
    refine V_bipush (v := 7) dX5_runCommand_171 (by decide) ?_
    refine V_icmp_gt (tgt := 192) dX5_runCommand_173 (by decide) (fun h173 => ?_) (fun h173 => ?_)
    · refine V_iconst (v := 0) dX5_runCommand_192 (by decide) ?_
      exact V_zret rfl dX5_runCommand_193 (Or.inl rfl) (by decide) (by decide) (by
  first
  | exact xT_no (by rw [rCmdB_5 c1, decide_eq_true_eq]; exact fun q => absurd (y7.mp h173) (by omega)) hA
  | exact xT_no (by rw [rCmdB_5 c1, decide_eq_true_eq, ← e9]; exact fun q => q.2 h185) hA
  | exact xT_yes (by rw [rCmdB_5 c1, decide_eq_true_eq, ← e9]; exact ⟨by omega, h185⟩) (by omega) hA)
    · rw [y7] at h173
      have e9 : M (o + 33 + 1 + 3) (k / 1000 % 10) = Q (23 + 3 * (k / 1000 % 10)) := aP.2.2.2.2.2.2.2.2.2.2.1 _ (by omega)
      refine V_ald7 dX5_runCommand_176 ?_
      refine V_getR fd_X5_121 dX5_runCommand_178 (by assumption) (by assumption) rfl ?_
      refine V_ild2 dX5_runCommand_181 ?_
      refine V_iald (j := k / 1000 % 10) dX5_runCommand_182 (by assumption) rfl (by omega) ?_
      refine V_ild5 dX5_runCommand_183 ?_
      refine V_icmp_lt (tgt := 192) dX5_runCommand_185 (by decide) (fun h185 => ?_) (fun h185 => ?_)
      · refine V_iconst (v := 0) dX5_runCommand_192 (by decide) ?_
        exact V_zret rfl dX5_runCommand_193 (Or.inl rfl) (by decide) (by decide) (by
  first
  | exact xT_no (by rw [rCmdB_5 c1, decide_eq_true_eq]; exact fun q => absurd (y7.mp h173) (by omega)) hA
  | exact xT_no (by rw [rCmdB_5 c1, decide_eq_true_eq, ← e9]; exact fun q => q.2 h185) hA
  | exact xT_yes (by rw [rCmdB_5 c1, decide_eq_true_eq, ← e9]; exact ⟨by omega, h185⟩) (by omega) hA)
      · refine V_iconst (v := 1) dX5_runCommand_188 (by decide) ?_
        refine V_goto (tgt := 193) dX5_runCommand_189 (by decide) ?_
        exact V_zret rfl dX5_runCommand_193 (Or.inr rfl) (by decide) (by decide) (by
  first
  | exact xT_no (by rw [rCmdB_5 c1, decide_eq_true_eq]; exact fun q => absurd (y7.mp h173) (by omega)) hA
  | exact xT_no (by rw [rCmdB_5 c1, decide_eq_true_eq, ← e9]; exact fun q => q.2 h185) hA
  | exact xT_yes (by rw [rCmdB_5 c1, decide_eq_true_eq, ← e9]; exact ⟨by omega, h185⟩) (by omega) hA)
  by_cases s51_6 : y51 = 6
  · subst s51_6
    refine V_tableIn (tgt := 194) dX5_runCommand_51 (by decide) (by decide) (off := 143) (by decide) (by decide) ?_
    have c1 : k / 10000 = 6 := ((nI_eq (a := 6) (by decide) (by omega)).mp e51).symm
    refine V_ald7 dX5_runCommand_194 ?_
    refine V_ald7 dX5_runCommand_196 ?_
    refine V_getI fd_X5_113 dX5_runCommand_198 (by assumption) rfl ?_
    refine V_cv1R lk_X5_132 cc_X2_levelAt dX5_runCommand_201 (by assumption) (c_X2_levelAt hpl _) ft_X5_runCommand_X2_levelAt rfl rfl (Nat.le_of_ble_eq_true rfl) ?_
    refine V_ild6 dX5_runCommand_204 ?_
    refine V_icmp_lt (tgt := 213) dX5_runCommand_206 (by decide) (fun h206 => ?_) (fun h206 => ?_)
    · refine V_iconst (v := 0) dX5_runCommand_213 (by decide) ?_
      exact V_zret rfl dX5_runCommand_214 (Or.inl rfl) (by decide) (by decide) (by
  first
  | exact xT_no (by rw [rCmdB_6 c1, decide_eq_true_eq, ← lv]; exact fun q => q h206) hA
  | exact xT_yes (by rw [rCmdB_6 c1, decide_eq_true_eq, ← lv]; exact h206) (by omega) hA)
    · refine V_iconst (v := 1) dX5_runCommand_209 (by decide) ?_
      refine V_goto (tgt := 214) dX5_runCommand_210 (by decide) ?_
      exact V_zret rfl dX5_runCommand_214 (Or.inr rfl) (by decide) (by decide) (by
  first
  | exact xT_no (by rw [rCmdB_6 c1, decide_eq_true_eq, ← lv]; exact fun q => q h206) hA
  | exact xT_yes (by rw [rCmdB_6 c1, decide_eq_true_eq, ← lv]; exact h206) (by omega) hA)
  by_cases s51_7 : y51 = 7
  · subst s51_7
    refine V_tableIn (tgt := 215) dX5_runCommand_51 (by decide) (by decide) (off := 164) (by decide) (by decide) ?_
    have c1 : k / 10000 = 7 := ((nI_eq (a := 7) (by decide) (by omega)).mp e51).symm
    have b7 := rCmdB_7 (Q := Q) c1
    rw [e47] at b7
    refine V_ild6 dX5_runCommand_215 ?_
    refine V_iconst (v := 3) dX5_runCommand_217 (by decide) ?_
    refine V_icmp_gt (tgt := 244) dX5_runCommand_218 (by decide) (fun h218 => ?_) (fun h218 => ?_)
    · refine V_iconst (v := 0) dX5_runCommand_244 (by decide) ?_
      exact V_zret rfl dX5_runCommand_245 (Or.inl rfl) (by decide) (by decide) (by exact xT_no (by rw [b7, decide_eq_true_eq]; exact fun q => absurd (y9.mp h218) (by omega)) hA)
    · refine V_ald0 dX5_runCommand_221 ?_
      refine V_getR fd_X5_26 dX5_runCommand_222 (by assumption) (by assumption) rfl ?_
      refine V_getR fd_X5_100 dX5_runCommand_225 (by assumption) (by assumption) rfl ?_
      refine V_getR fd_X5_142 dX5_runCommand_228 (by assumption) (by assumption) rfl ?_
      refine V_iconst (v := 0) dX5_runCommand_231 (by decide) ?_
      rw [y9] at h218
      by_cases hj : 0 < lf
      · have e9 : M (o + 33 + 7 + 2 + 1) (kRing w 0 60) = aFate Q lf 0 := by unfold aFate; rw [if_pos hj]; exact aQ.2.2.2.2.2.2.1 0 hj
        refine V_cv1R lk_X5_187 cc_X1_back dX5_runCommand_232 (by assumption) (c_X1_back hf i1 (j := 0) hj) ft_X5_runCommand_X1_back rfl rfl (Nat.le_of_ble_eq_true rfl) ?_
        refine V_ild6 dX5_runCommand_235 ?_
        refine V_icmp_ne (tgt := 244) dX5_runCommand_237 (by decide) (fun h237 => ?_) (fun h237 => ?_)
        · refine V_iconst (v := 0) dX5_runCommand_244 (by decide) ?_
          exact V_zret rfl dX5_runCommand_245 (Or.inl rfl) (by decide) (by decide) (by
  first
  | exact xT_no (by rw [b7, decide_eq_true_eq, ← e9]; exact fun q => h237 q.2) hA
  | exact xT_yes (by rw [b7, decide_eq_true_eq, ← e9]; exact ⟨by omega, h237⟩) (by omega) hA)
        · refine V_iconst (v := 1) dX5_runCommand_240 (by decide) ?_
          refine V_goto (tgt := 245) dX5_runCommand_241 (by decide) ?_
          exact V_zret rfl dX5_runCommand_245 (Or.inr rfl) (by decide) (by decide) (by
  first
  | exact xT_no (by rw [b7, decide_eq_true_eq, ← e9]; exact fun q => h237 q.2) hA
  | exact xT_yes (by rw [b7, decide_eq_true_eq, ← e9]; exact ⟨by omega, h237⟩) (by omega) hA)
      · have e9 : aFate Q lf 0 = -9 := by unfold aFate; rw [if_neg hj]
        have l0 : lf = 0 := by omega
        refine V_cv1R lk_X5_187 cc_X1_back dX5_runCommand_232 (by assumption) (c_X1_backO hf i1 (v := 0) (Or.inr (by rw [l0]; decide))) ft_X5_runCommand_X1_back rfl rfl (Nat.le_of_ble_eq_true rfl) ?_
        refine V_ild6 dX5_runCommand_235 ?_
        refine V_icmp_ne (tgt := 244) dX5_runCommand_237 (by decide) (fun h237 => ?_) (fun h237 => ?_)
        · refine V_iconst (v := 0) dX5_runCommand_244 (by decide) ?_
          exact V_zret rfl dX5_runCommand_245 (Or.inl rfl) (by decide) (by decide) (by
  first
  | exact xT_no (by rw [b7, decide_eq_true_eq, e9]; exact fun q => h237 q.2) hA
  | exact xT_yes (by rw [b7, decide_eq_true_eq, e9]; exact ⟨by omega, h237⟩) (by omega) hA)
        · refine V_iconst (v := 1) dX5_runCommand_240 (by decide) ?_
          refine V_goto (tgt := 245) dX5_runCommand_241 (by decide) ?_
          exact V_zret rfl dX5_runCommand_245 (Or.inr rfl) (by decide) (by decide) (by
  first
  | exact xT_no (by rw [b7, decide_eq_true_eq, e9]; exact fun q => h237 q.2) hA
  | exact xT_yes (by rw [b7, decide_eq_true_eq, e9]; exact ⟨by omega, h237⟩) (by omega) hA)
  by_cases s51_8 : y51 = 8
  · subst s51_8
    refine V_tableIn (tgt := 246) dX5_runCommand_51 (by decide) (by decide) (off := 195) (by decide) (by decide) ?_
    have c1 : k / 10000 = 8 := ((nI_eq (a := 8) (by decide) (by omega)).mp e51).symm
    have o6 : M (o + 33 + 1) 6 = Q 13 := aP.2.2.2.2.1
    refine V_ild6 dX5_runCommand_246 ?_
    refine V_ald7 dX5_runCommand_248 ?_
    refine V_getI fd_X5_145 dX5_runCommand_250 (by assumption) rfl ?_
    refine V_if_eq (tgt := 260) dX5_runCommand_253 (by decide) (fun h253 => ?_) (fun h253 => ?_)
    · refine V_iconst (v := 0) dX5_runCommand_260 (by decide) ?_
      refine V_icmp_ne (tgt := 268) dX5_runCommand_261 (by decide) (fun h261 => ?_) (fun h261 => ?_)
      · refine V_iconst (v := 0) dX5_runCommand_268 (by decide) ?_
        exact V_zret rfl dX5_runCommand_269 (Or.inl rfl) (by decide) (by decide) (by
  rw [o6] at h253
  first
  | exact xT_no (by rw [rCmdB_8 c1, decide_eq_true_eq, h253]; exact h261) hA
  | exact xT_yes (by rw [rCmdB_8 c1, decide_eq_true_eq, h253]; exact h261) (by omega) hA
  | exact xT_no (by rw [rCmdB_8 c1, decide_eq_true_eq, hw.2.2.2.2.2.2.1.resolve_left h253]; exact h261) hA
  | exact xT_yes (by rw [rCmdB_8 c1, decide_eq_true_eq, hw.2.2.2.2.2.2.1.resolve_left h253]; exact h261) (by omega) hA)
      · refine V_iconst (v := 1) dX5_runCommand_264 (by decide) ?_
        refine V_goto (tgt := 269) dX5_runCommand_265 (by decide) ?_
        exact V_zret rfl dX5_runCommand_269 (Or.inr rfl) (by decide) (by decide) (by
  rw [o6] at h253
  first
  | exact xT_no (by rw [rCmdB_8 c1, decide_eq_true_eq, h253]; exact h261) hA
  | exact xT_yes (by rw [rCmdB_8 c1, decide_eq_true_eq, h253]; exact h261) (by omega) hA
  | exact xT_no (by rw [rCmdB_8 c1, decide_eq_true_eq, hw.2.2.2.2.2.2.1.resolve_left h253]; exact h261) hA
  | exact xT_yes (by rw [rCmdB_8 c1, decide_eq_true_eq, hw.2.2.2.2.2.2.1.resolve_left h253]; exact h261) (by omega) hA)
    · refine V_iconst (v := 1) dX5_runCommand_256 (by decide) ?_
      refine V_goto (tgt := 261) dX5_runCommand_257 (by decide) ?_
      refine V_icmp_ne (tgt := 268) dX5_runCommand_261 (by decide) (fun h261 => ?_) (fun h261 => ?_)
      · refine V_iconst (v := 0) dX5_runCommand_268 (by decide) ?_
        exact V_zret rfl dX5_runCommand_269 (Or.inl rfl) (by decide) (by decide) (by
  rw [o6] at h253
  first
  | exact xT_no (by rw [rCmdB_8 c1, decide_eq_true_eq, h253]; exact h261) hA
  | exact xT_yes (by rw [rCmdB_8 c1, decide_eq_true_eq, h253]; exact h261) (by omega) hA
  | exact xT_no (by rw [rCmdB_8 c1, decide_eq_true_eq, hw.2.2.2.2.2.2.1.resolve_left h253]; exact h261) hA
  | exact xT_yes (by rw [rCmdB_8 c1, decide_eq_true_eq, hw.2.2.2.2.2.2.1.resolve_left h253]; exact h261) (by omega) hA)
      · refine V_iconst (v := 1) dX5_runCommand_264 (by decide) ?_
        refine V_goto (tgt := 269) dX5_runCommand_265 (by decide) ?_
        exact V_zret rfl dX5_runCommand_269 (Or.inr rfl) (by decide) (by decide) (by
  rw [o6] at h253
  first
  | exact xT_no (by rw [rCmdB_8 c1, decide_eq_true_eq, h253]; exact h261) hA
  | exact xT_yes (by rw [rCmdB_8 c1, decide_eq_true_eq, h253]; exact h261) (by omega) hA
  | exact xT_no (by rw [rCmdB_8 c1, decide_eq_true_eq, hw.2.2.2.2.2.2.1.resolve_left h253]; exact h261) hA
  | exact xT_yes (by rw [rCmdB_8 c1, decide_eq_true_eq, hw.2.2.2.2.2.2.1.resolve_left h253]; exact h261) (by omega) hA)
  refine V_tableOut (tgt := 270) dX5_runCommand_51 (by have q1 := xne s51_1; have q2 := xne s51_2; have q3 := xne s51_3; have q4 := xne s51_4; have q5 := xne s51_5; have q6 := xne s51_6; have q7 := xne s51_7; have q8 := xne s51_8; simp only [xlit_1, xlit_2, xlit_3, xlit_4, xlit_5, xlit_6, xlit_7, xlit_8] at q1 q2 q3 q4 q5 q6 q7 q8; omega) (by decide) ?_
  have c1 : ∀ v, 1 ≤ v → v ≤ 8 → k / 10000 ≠ v := by
    intro v v1 v2 e
    have e9 : y51 = nI v := by rw [e51, e]
    have : v = 1 ∨ v = 2 ∨ v = 3 ∨ v = 4 ∨ v = 5 ∨ v = 6 ∨ v = 7 ∨ v = 8 := by omega
    rcases this with rfl | rfl | rfl | rfl | rfl | rfl | rfl | rfl <;> contradiction
  refine V_iconst (v := 0) dX5_runCommand_270 (by decide) ?_
  exact V_zret rfl dX5_runCommand_271 (Or.inl rfl) (by decide) (by decide) (xT_no (by rw [rCmdB_9 c1]; decide) hA)
end C42

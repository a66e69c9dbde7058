/-! ===== the law: what stands between two calls; ranges kept ===== -/
abbrev Y_L_law : xY := (yL_law, cL_law, 8, some .boolean, { frames := 11, cells := 601024, slots := 7293034, locals := 426 }, [])
def LI (M : xMem) (L : xLng) (o m : Nat) (S : xSp) (T B : Nat) : Prop := CRel M L o S ∧ MRel M m S ∧ WFS S T B
section P74
variable {M M' : xMem} {L : xLng} {m o k T B T' B' : Nat} {S S' : xSp}
theorem MRel.cong (h : MRel M m S) (e : ∀ j, m ≤ j → j ≤ m + 7 → M' j = M j) : MRel M' m S := by
  unfold MRel at h ⊢
  rw [e m (by omega) (by omega), e (m + 1) (by omega) (by omega), e (m + 2) (by omega) (by omega), e (m + 3) (by omega) (by omega), e (m + 4) (by omega) (by omega), e (m + 5) (by omega) (by omega), e (m + 6) (by omega) (by omega), e (m + 7) (by omega) (by omega)]
  exact h
theorem CRel.outM (h : CRel M L o S) (e : ∀ j, o ≤ j → j ≤ o + 288 → M' j = M j) : CRel M' L o S := h.scr (fun k i _ q1 q2 => by rw [e k q2 q1]) (fun _ _ => rfl)
theorem W_if (h1 : k = 0 → WFS S' T B) (h2 : WFS S T B) : WFS (if k = 0 then S' else S) T B := by
  by_cases c : k = 0
  · rw [if_pos c]; exact h1 c
  · rw [if_neg c]; exact h2
theorem W_drop (hw : WFS S T B) (t2 : T ≤ 240000) (b2 : B ≤ 200000000) {t z : Int32} (k : kdFall t z = 0) : WFS (sNow (sPush S) (rDr S.2.2.1 t z)) (T + 99) (B + 216000) := by
  have c : ¬ (t < 0 ∨ 99 < t) ∧ ¬ (z < 1 ∨ 60 < z) := by
    refine Decidable.byContradiction fun q => ?_
    unfold kdFall at k
    rw [if_neg q] at k
    exact absurd k (by decide)
  obtain ⟨c1, c2⟩ := c
  rw [not_or] at c1 c2
  obtain ⟨d, d1, rfl⟩ := xIdx (N := 99) (by decide) c1.1 c1.2
  obtain ⟨y, y1, y2, rfl⟩ := xIdx1 (N := 60) (by decide) c2.1 c2.2
  exact (hw.push.mono (by omega) (by omega)).now ((hw.1.dr ⟨y1, y2⟩ (by omega) (by omega)).mono (by omega) (by omega))
theorem W_pass (hw : WFS S T B) {t : Int32} (k : kdO t 1 99 = 0) : WFS (sNow (sPush S) (rGo S.2.2.1 t)) (T + 99) (B + 216000) := by
  have c : ¬ (t < 1 ∨ 99 < t) := by
    intro q
    rw [kdO_1 q] at k
    exact absurd k (by decide)
  rw [not_or] at c
  obtain ⟨d, d1, d2, rfl⟩ := xIdx1 (N := 99) (by decide) c.1 c.2
  exact (hw.push.mono (by omega) (by omega)).now ((hw.1.go (d := d)).mono (by omega) (by omega))
theorem W_set (hw : WFS S T B) {w v : Int32} (k : kdSet w v = 0) : WFS (sNow (sPush S) (upR S.2.2.1 (1 + w.toNatClampNeg) v)) (T + 99) (B + 216000) := by
  have c : ¬ (w < 0 ∨ 4 < w) ∧ ¬ (v < xLeast w.toNatClampNeg ∨ xGreatest w.toNatClampNeg < v) := by
    refine Decidable.byContradiction fun q => ?_
    unfold kdSet at k
    rw [if_neg q] at k
    exact absurd k (by decide)
  obtain ⟨c1, c2⟩ := c
  rw [not_or] at c1
  obtain ⟨d, d1, rfl⟩ := xIdx (N := 4) (by decide) c1.1 c1.2
  rw [nI_clamp (by omega)] at c2 ⊢
  exact ((hw.push).now (hw.1.set d1 c2)).mono (by omega) (by omega)
theorem W_bor (hw : WFS S T B) {w v : Int32} (k : kdBor S.2.2.1 w v = 0) : WFS (sNow (sPush S) (upR S.2.2.1 (15 + w.toNatClampNeg) v)) (T + 99) (B + 216000) := by
  have c1 : ¬ (w < 1 ∨ 7 < w) := by
    intro q
    unfold kdBor at k
    rw [if_pos q] at k
    exact absurd k (by decide)
  have c2 : ¬ (v < 1 ∨ 5000 < v) := by
    intro q
    unfold kdBor at k
    rw [if_neg c1, if_pos q] at k
    exact absurd k (by decide)
  rw [not_or] at c1 c2
  obtain ⟨d, d1, d2, rfl⟩ := xIdx1 (N := 7) (by decide) c1.1 c1.2
  obtain ⟨y, y1, y2, rfl⟩ := xIdx1 (N := 5000) (by decide) c2.1 c2.2
  rw [nI_clamp (by omega)]
  exact ((hw.push).now (hw.1.up (i := 15 + d) (by omega) (fun q => by omega) (fun q => by omega) (fun q => by omega) (fun q => by omega) (fun q => by omega) (fun q => by omega) (fun q => by omega) (fun _ _ => ⟨y, y1, y2, rfl⟩) (by omega))).mono (by omega) (by omega)
theorem W_undo (hw : WFS S T B) (k : (if S.2.2.2.1 = 0 then 1 else 0) = 0) : WFS (sPop S) (T + 99) (B + 216000) := by
  have c : ¬ S.2.2.2.1 = 0 := by
    intro q
    rw [if_pos q] at k
    exact absurd k (by decide)
  exact (hw.pop (by omega)).mono (by omega) (by omega)
theorem W_back (hw : WFS S T B) {w : Int32} (k : kdRes S w = 0) : WFS (sBack S w.toNatClampNeg) (T + 99) (B + 216000) := by
  have c1 : ¬ (w < 0 ∨ 1 < w) := by
    intro q
    unfold kdRes at k
    rw [if_pos q] at k
    exact absurd k (by decide)
  have c2 : S.2.2.2.2.2.1 w.toNatClampNeg = true := by
    refine Decidable.byContradiction fun q => ?_
    unfold kdRes at k
    rw [if_neg c1, if_neg q] at k
    exact absurd k (by decide)
  rw [not_or] at c1
  obtain ⟨d, d1, rfl⟩ := xIdx (N := 1) (by decide) c1.1 c1.2
  rw [nI_clamp (by omega)] at c2 ⊢
  exact (hw.back (by omega) c2).mono (by omega) (by omega)
theorem W_load (hl : S.1 ≤ 100) (t1 : 10000 ≤ T) (b1 : 21600000 ≤ B) (k : kdLoad S = 0) : WFS (sLoad S) (T + 99) (B + 216000) := by
  have c : kFirst (kSg S.2.1 S.1) S.1 = -9 := by
    refine Decidable.byContradiction fun q => ?_
    unfold kdLoad at k
    rw [if_neg q] at k
    exact absurd k (by decide)
  exact ⟨(WFr.load hl 100 0 1 rCln (by omega) (by omega) (kFirst_ok c) WFr.cln).mono (by omega) (by omega), fun i hi => absurd hi (Nat.not_lt_zero i), fun q => absurd q Bool.false_ne_true, fun q => absurd q Bool.false_ne_true⟩
theorem W_text (hw : WFS S T B) (c : Int32) : WFS (sText S c) (T + 99) (B + 216000) := by
  have h : WFS (sText S c) T B := hw
  exact h.mono (by omega) (by omega)
theorem W_wipe (hw : WFS S T B) : WFS (sWipe S) (T + 99) (B + 216000) := by
  have h : WFS (sWipe S) T B := hw
  exact h.mono (by omega) (by omega)
theorem W_empty (hw : WFS S T B) : WFS (sNow (sPush S) (rEmp S.2.2.1)) (T + 99) (B + 216000) := (hw.push.now hw.1.emp).mono (by omega) (by omega)
theorem W_keep (hw : WFS S T B) (j : Nat) : WFS (sKeep S j) (T + 99) (B + 216000) := (hw.keep (j := j)).mono (by omega) (by omega)
theorem W_new : WFS sNew 10000 21600000 := ⟨WFr.cln.mono (by omega) (by omega), fun i hi => absurd hi (Nat.not_lt_zero i), fun q => absurd q Bool.false_ne_true, fun q => absurd q Bool.false_ne_true⟩
theorem nI_03 {k : Nat} (h : k ≤ 3) (e : nI k = 0) : k = 0 := (nI_eq (b := 0) (by omega) (by decide)).mp e
end P74

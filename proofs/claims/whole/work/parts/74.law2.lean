/-! ===== the law: what stands between two calls; ranges kept ===== -/
abbrev Y_L_law : xY := (yL_law, cL_law, 8, some .boolean, { frames := 11, cells := 601024, slots := 7293034, locals := 426 }, [])
def LI (M : xMem) (L : xLng) (o m : Nat) (S : xSp) (T B : Nat) : Prop := CRel M L o S ∧ MRel M m S ∧ WFS S T B
section P74
variable {M M' : xMem} {L : xLng} {m o k T B T' B' : Nat} {S S' : xSp}
theorem MRel.cong (h : MRel M m S) (e : ∀ j, m ≤ j → j ≤ m + 7 → M' j = M j) : MRel M' m S := by
  unfold MRel at h ⊢
  rw [e m (by omega) (by omega), e (m + 1) (by omega) (by omega), e (m + 2) (by omega) (by omega), e (m + 3) (by omega) (by omega), e (m + 4) (by omega) (by omega), e (m + 5) (by omega) (by omega), e (m + 6) (by omega) (by omega), e (m + 7) (by omega) (by omega)]
  exact h
theorem CRel.outM (h : CRel M L o S) (e : ∀ j, o ≤ j → j ≤ o + 288 → M' j = M j) : CRel M' L o S := h.scr (fun k i _ q1 q2 => by rw [e k q2 q1]) (fun _ _ => rfl)
theorem W_if (h1 : k = 0 → WFS S' T B) (h2 : WFS S T B) : WFS (if k = 0 then S' else S) T B := by
  by_cases c : k = 0
  · rw [if_pos c]; exact h1 c
  · rw [if_neg c]; exact h2
theorem W_drop (hw : WFS S T B) (t2 : T ≤ 240000) (b2 : B ≤ 200000000) {t z : Int32} (k : kdFall t z = 0) : WFS (sNow (sPush S) (rDr S.2.2.1 t z)) (T + 99) (B + 216000) := by
  have c : ¬ (t < 0 ∨ 99 < t) ∧ ¬ (z < 1 ∨ 60 < z) := by
    refine Decidable.byContradiction fun q => ?_
    unfold kdFall at k
    rw [if_neg q] at k
    exact absurd k (by decide)
  obtain ⟨c1, c2⟩ := c
  rw [not_or] at c1 c2
  obtain ⟨d, d1, rfl⟩ := xIdx (N := 99) (by decide) c1.1 c1.2
  obtain ⟨y, y1, y2, rfl⟩ := xIdx1 (N := 60) (by decide) c2.1 c2.2
  exact (hw.push.mono (by omega) (by omega)).now ((hw.1.dr ⟨y1, y2⟩ (by omega) (by omega)).mono (by omega) (by omega))
theorem W_pass (hw : WFS S T B) {t : Int32} (k : kdO t 1 99 = 0) : WFS (sNow (sPush S) (rGo S.2.2.1 t)) (T + 99) (B + 216000) := by
  have c : ¬ (t < 1 ∨ 99 < t) := by
    intro q
    rw [kdO_1 q] at k
    exact absurd k (by decide)
  rw [not_or] at c
  obtain ⟨d, d1, d2, rfl⟩ := xIdx1 (N := 99) (by decide) c.1 c.2
  exact (hw.push.mono (by omega) (by omega)).now ((hw.1.go (d := d)).mono (by omega) (by omega))
theorem W_set (hw : WFS S T B) {w v : Int32} (k : kdSet w v = 0) : WFS (sNow (sPush S) (upR S.2.2.1 (1 + w.toNatClampNeg) v)) (T + 99) (B + 216000) := by
  have c : ¬ (w < 0 ∨ 4 < w) ∧ ¬ (v < xLeast w.toNatClampNeg ∨ xGreatest w.toNatClampNeg < v) := by
    refine Decidable.byContradiction fun q => ?_
    unfold kdSet at k
    rw [if_neg q] at k
    exact absurd k (by decide)
  obtain ⟨c1, c2⟩ := c
  rw [not_or] at c1
  obtain ⟨d, d1, rfl⟩ := xIdx (N := 4) (by decide) c1.1 c1.2
  rw [nI_clamp (by omega)] at c2 ⊢
  exact ((hw.push).now (hw.1.set d1 c2)).mono (by omega) (by omega)
theorem W_bor (hw : WFS S T B) {w v : Int32} (k : kdBor S.2.2.1 w v = 0) : WFS (sNow (sPush S) (upR S.2.2.1 (15 + w.toNatClampNeg) v)) (T + 99) (B + 216000) := by
  have c1 : ¬ (w < 1 ∨ 7 < w) := by
    intro q
    unfold kdBor at k
    rw [if_pos q] at k
    exact absurd k (by decide)
  have c2 : ¬ (v < 1 ∨ 5000 < v) := by
    intro q
    unfold kdBor at k
    rw [if_neg c1, if_pos q] at k
    exact absurd k (by decide)
  rw [not_or] at c1 c2
  obtain ⟨d, d1, d2, rfl⟩ := xIdx1 (N := 7) (by decide) c1.1 c1.2
  obtain ⟨y, y1, y2, rfl⟩ := xIdx1 (N := 5000) (by decide) c2.1 c2.2
  rw [nI_clamp (by omega)]
  exact ((hw.push).now (hw.1.up (i := 15 + d) (by omega) (fun q => by omega) (fun q => by omega) (fun q => by omega) (fun q => by omega) (fun q => by omega) (fun q => by omega) (fun q => by omega) (fun _ _ => ⟨y, y1, y2, rfl⟩) (by omega))).mono (by omega) (by omega)
theorem W_undo (hw : WFS S T B) (k : (if S.2.2.2.1 = 0 then 1 else 0) = 0) : WFS (sPop S) (T + 99) (B + 216000) := by
  have c : ¬ S.2.2.2.1 = 0 := by
    intro q
    rw [if_pos q] at k
    exact absurd k (by decide)
  exact (hw.pop (by omega)).mono (by omega) (by omega)
theorem W_back (hw : WFS S T B) {w : Int32} (k : kdRes S w = 0) : WFS (sBack S w.toNatClampNeg) (T + 99) (B + 216000) := by
  have c1 : ¬ (w < 0 ∨ 1 < w) := by
    intro q
    unfold kdRes at k
    rw [if_pos q] at k
    exact absurd k (by decide)
  have c2 : S.2.2.2.2.2.1 w.toNatClampNeg = true := by
    refine Decidable.byContradiction fun q => ?_
    unfold kdRes at k
    rw [if_neg c1, if_neg q] at k
    exact absurd k (by decide)
  rw [not_or] at c1
  obtain ⟨d, d1, rfl⟩ := xIdx (N := 1) (by decide) c1.1 c1.2
  rw [nI_clamp (by omega)] at c2 ⊢
  exact (hw.back (by omega) c2).mono (by omega) (by omega)
theorem W_load (hl : S.1 ≤ 100) (t1 : 10000 ≤ T) (b1 : 21600000 ≤ B) (k : kdLoad S = 0) : WFS (sLoad S) (T + 99) (B + 216000) := by
  have c : kFirst (kSg S.2.1 S.1) S.1 = -9 := by
    refine Decidable.byContradiction fun q => ?_
    unfold kdLoad at k
    rw [if_neg q] at k
    exact absurd k (by decide)
  exact ⟨(WFr.load hl 100 0 1 rCln (by omega) (by omega) (kFirst_ok c) WFr.cln).mono (by omega) (by omega), fun i hi => absurd hi (Nat.not_lt_zero i), fun q => absurd q Bool.false_ne_true, fun q => absurd q Bool.false_ne_true⟩
theorem W_text (hw : WFS S T B) (c : Int32) : WFS (sText S c) (T + 99) (B + 216000) := by
  have h : WFS (sText S c) T B := hw
  exact h.mono (by omega) (by omega)
theorem W_wipe (hw : WFS S T B) : WFS (sWipe S) (T + 99) (B + 216000) := by
  have h : WFS (sWipe S) T B := hw
  exact h.mono (by omega) (by omega)
theorem W_empty (hw : WFS S T B) : WFS (sNow (sPush S) (rEmp S.2.2.1)) (T + 99) (B + 216000) := (hw.push.now hw.1.emp).mono (by omega) (by omega)
theorem W_keep (hw : WFS S T B) (j : Nat) : WFS (sKeep S j) (T + 99) (B + 216000) := (hw.keep (j := j)).mono (by omega) (by omega)
theorem W_new : WFS sNew 10000 21600000 := ⟨WFr.cln.mono (by omega) (by omega), fun i hi => absurd hi (Nat.not_lt_zero i), fun q => absurd q Bool.false_ne_true, fun q => absurd q Bool.false_ne_true⟩
theorem nI_03 {k : Nat} (h : k ≤ 3) (e : nI k = 0) : k = 0 := (nI_eq (b := 0) (by omega) (by decide)).mp e
end P74
/-! facts of the calls -/
theorem cc_X6_append : xCV Y_X6_append 6 1 := ⟨ok_X6_append, mm_X6_append, mv_X6_append, _, rfl, rfl⟩
theorem cc_X6_clearText : xCV Y_X6_clearText 6 0 := ⟨ok_X6_clearText, mm_X6_clearText, mv_X6_clearText, _, rfl, rfl⟩
theorem cc_X5_clearText : xCV Y_X5_clearText 5 0 := ⟨ok_X5_clearText, mm_X5_clearText, mv_X5_clearText, _, rfl, rfl⟩
theorem cc_X6_errorPosition : xCV Y_X6_errorPosition 6 0 := ⟨ok_X6_errorPosition, mm_X6_errorPosition, mv_X6_errorPosition, _, rfl, rfl⟩
theorem cc_X5_errorPosition : xCV Y_X5_errorPosition 5 0 := ⟨ok_X5_errorPosition, mm_X5_errorPosition, mv_X5_errorPosition, _, rfl, rfl⟩
theorem cc_X6_load : xCV Y_X6_load 6 0 := ⟨ok_X6_load, mm_X6_load, mv_X6_load, _, rfl, rfl⟩
theorem cc_X6_about : xCV Y_X6_about 6 1 := ⟨ok_X6_about, mm_X6_about, mv_X6_about, _, rfl, rfl⟩
theorem cc_X6_setting : xCV Y_X6_setting 6 1 := ⟨ok_X6_setting, mm_X6_setting, mv_X6_setting, _, rfl, rfl⟩
theorem cc_X6_bin : xCV Y_X6_bin 6 2 := ⟨ok_X6_bin, mm_X6_bin, mv_X6_bin, _, rfl, rfl⟩
theorem cc_X6_pulse : xCV Y_X6_pulse 6 1 := ⟨ok_X6_pulse, mm_X6_pulse, mv_X6_pulse, _, rfl, rfl⟩
theorem cc_X6_fate : xCV Y_X6_fate 6 1 := ⟨ok_X6_fate, mm_X6_fate, mv_X6_fate, _, rfl, rfl⟩
theorem cc_X6_longest : xCV Y_X6_longest 6 1 := ⟨ok_X6_longest, mm_X6_longest, mv_X6_longest, _, rfl, rfl⟩
theorem cc_X6_pattern : xCV Y_X6_pattern 6 2 := ⟨ok_X6_pattern, mm_X6_pattern, mv_X6_pattern, _, rfl, rfl⟩
theorem cc_X6_rain : xCV Y_X6_rain 6 1 := ⟨ok_X6_rain, mm_X6_rain, mv_X6_rain, _, rfl, rfl⟩
theorem cc_X6_trueRain : xCV Y_X6_trueRain 6 0 := ⟨ok_X6_trueRain, mm_X6_trueRain, mv_X6_trueRain, _, rfl, rfl⟩
theorem cc_X5_trueRain : xCV Y_X5_trueRain 5 0 := ⟨ok_X5_trueRain, mm_X5_trueRain, mv_X5_trueRain, _, rfl, rfl⟩
theorem cc_X6_drop : xCV Y_X6_drop 6 2 := ⟨ok_X6_drop, mm_X6_drop, mv_X6_drop, _, rfl, rfl⟩
theorem cc_X6_pass : xCV Y_X6_pass 6 1 := ⟨ok_X6_pass, mm_X6_pass, mv_X6_pass, _, rfl, rfl⟩
theorem cc_X6_set : xCV Y_X6_set 6 2 := ⟨ok_X6_set, mm_X6_set, mv_X6_set, _, rfl, rfl⟩
theorem cc_X6_setBorder : xCV Y_X6_setBorder 6 2 := ⟨ok_X6_setBorder, mm_X6_setBorder, mv_X6_setBorder, _, rfl, rfl⟩
theorem cc_X6_empty : xCV Y_X6_empty 6 0 := ⟨ok_X6_empty, mm_X6_empty, mv_X6_empty, _, rfl, rfl⟩
theorem cc_X5_empty : xCV Y_X5_empty 5 0 := ⟨ok_X5_empty, mm_X5_empty, mv_X5_empty, _, rfl, rfl⟩
theorem cc_X6_undo : xCV Y_X6_undo 6 0 := ⟨ok_X6_undo, mm_X6_undo, mv_X6_undo, _, rfl, rfl⟩
theorem cc_X6_wouldBe : xCV Y_X6_wouldBe 6 2 := ⟨ok_X6_wouldBe, mm_X6_wouldBe, mv_X6_wouldBe, _, rfl, rfl⟩
theorem cc_X6_leastSize : xCV Y_X6_leastSize 6 1 := ⟨ok_X6_leastSize, mm_X6_leastSize, mv_X6_leastSize, _, rfl, rfl⟩
theorem cc_X6_quietIn : xCV Y_X6_quietIn 6 1 := ⟨ok_X6_quietIn, mm_X6_quietIn, mv_X6_quietIn, _, rfl, rfl⟩
theorem cc_X6_replay : xCV Y_X6_replay 6 3 := ⟨ok_X6_replay, mm_X6_replay, mv_X6_replay, _, rfl, rfl⟩
theorem cc_X6_bestWindow : xCV Y_X6_bestWindow 6 1 := ⟨ok_X6_bestWindow, mm_X6_bestWindow, mv_X6_bestWindow, _, rfl, rfl⟩
theorem cc_X6_runScript : xCV Y_X6_runScript 6 2 := ⟨ok_X6_runScript, mm_X6_runScript, mv_X6_runScript, _, rfl, rfl⟩
theorem cc_X6_simulate : xCV Y_X6_simulate 6 2 := ⟨ok_X6_simulate, mm_X6_simulate, mv_X6_simulate, _, rfl, rfl⟩
theorem cc_X6_save : xCV Y_X6_save 6 1 := ⟨ok_X6_save, mm_X6_save, mv_X6_save, _, rfl, rfl⟩
theorem cc_X6_restore : xCV Y_X6_restore 6 1 := ⟨ok_X6_restore, mm_X6_restore, mv_X6_restore, _, rfl, rfl⟩
theorem cc_X6_thrown : xCV Y_X6_thrown 6 0 := ⟨ok_X6_thrown, mm_X6_thrown, mv_X6_thrown, _, rfl, rfl⟩
theorem hn_L_append : Y_L_append.1.cls ≠ "java/lang/invoke/MethodHandle" ∧ Y_L_append.1.cls ≠ "java/lang/invoke/VarHandle" ∧ (parseMethodDescriptor Y_L_append.1.desc).map (fun d => d.parameters.length) = some 3 := ⟨by decide +kernel, by decide +kernel, by decide +kernel⟩
theorem hn_L_load : Y_L_load.1.cls ≠ "java/lang/invoke/MethodHandle" ∧ Y_L_load.1.cls ≠ "java/lang/invoke/VarHandle" ∧ (parseMethodDescriptor Y_L_load.1.desc).map (fun d => d.parameters.length) = some 2 := ⟨by decide +kernel, by decide +kernel, by decide +kernel⟩
theorem hn_L_about : Y_L_about.1.cls ≠ "java/lang/invoke/MethodHandle" ∧ Y_L_about.1.cls ≠ "java/lang/invoke/VarHandle" ∧ (parseMethodDescriptor Y_L_about.1.desc).map (fun d => d.parameters.length) = some 3 := ⟨by decide +kernel, by decide +kernel, by decide +kernel⟩
theorem hn_L_setting : Y_L_setting.1.cls ≠ "java/lang/invoke/MethodHandle" ∧ Y_L_setting.1.cls ≠ "java/lang/invoke/VarHandle" ∧ (parseMethodDescriptor Y_L_setting.1.desc).map (fun d => d.parameters.length) = some 3 := ⟨by decide +kernel, by decide +kernel, by decide +kernel⟩
theorem hn_L_bin : Y_L_bin.1.cls ≠ "java/lang/invoke/MethodHandle" ∧ Y_L_bin.1.cls ≠ "java/lang/invoke/VarHandle" ∧ (parseMethodDescriptor Y_L_bin.1.desc).map (fun d => d.parameters.length) = some 4 := ⟨by decide +kernel, by decide +kernel, by decide +kernel⟩
theorem hn_L_pulse : Y_L_pulse.1.cls ≠ "java/lang/invoke/MethodHandle" ∧ Y_L_pulse.1.cls ≠ "java/lang/invoke/VarHandle" ∧ (parseMethodDescriptor Y_L_pulse.1.desc).map (fun d => d.parameters.length) = some 3 := ⟨by decide +kernel, by decide +kernel, by decide +kernel⟩
theorem hn_L_fate : Y_L_fate.1.cls ≠ "java/lang/invoke/MethodHandle" ∧ Y_L_fate.1.cls ≠ "java/lang/invoke/VarHandle" ∧ (parseMethodDescriptor Y_L_fate.1.desc).map (fun d => d.parameters.length) = some 3 := ⟨by decide +kernel, by decide +kernel, by decide +kernel⟩
theorem hn_L_longest : Y_L_longest.1.cls ≠ "java/lang/invoke/MethodHandle" ∧ Y_L_longest.1.cls ≠ "java/lang/invoke/VarHandle" ∧ (parseMethodDescriptor Y_L_longest.1.desc).map (fun d => d.parameters.length) = some 3 := ⟨by decide +kernel, by decide +kernel, by decide +kernel⟩
theorem hn_L_pattern : Y_L_pattern.1.cls ≠ "java/lang/invoke/MethodHandle" ∧ Y_L_pattern.1.cls ≠ "java/lang/invoke/VarHandle" ∧ (parseMethodDescriptor Y_L_pattern.1.desc).map (fun d => d.parameters.length) = some 4 := ⟨by decide +kernel, by decide +kernel, by decide +kernel⟩
theorem hn_L_rain : Y_L_rain.1.cls ≠ "java/lang/invoke/MethodHandle" ∧ Y_L_rain.1.cls ≠ "java/lang/invoke/VarHandle" ∧ (parseMethodDescriptor Y_L_rain.1.desc).map (fun d => d.parameters.length) = some 3 := ⟨by decide +kernel, by decide +kernel, by decide +kernel⟩
theorem hn_L_drop : Y_L_drop.1.cls ≠ "java/lang/invoke/MethodHandle" ∧ Y_L_drop.1.cls ≠ "java/lang/invoke/VarHandle" ∧ (parseMethodDescriptor Y_L_drop.1.desc).map (fun d => d.parameters.length) = some 4 := ⟨by decide +kernel, by decide +kernel, by decide +kernel⟩
theorem hn_L_pass : Y_L_pass.1.cls ≠ "java/lang/invoke/MethodHandle" ∧ Y_L_pass.1.cls ≠ "java/lang/invoke/VarHandle" ∧ (parseMethodDescriptor Y_L_pass.1.desc).map (fun d => d.parameters.length) = some 3 := ⟨by decide +kernel, by decide +kernel, by decide +kernel⟩
theorem hn_L_set : Y_L_set.1.cls ≠ "java/lang/invoke/MethodHandle" ∧ Y_L_set.1.cls ≠ "java/lang/invoke/VarHandle" ∧ (parseMethodDescriptor Y_L_set.1.desc).map (fun d => d.parameters.length) = some 4 := ⟨by decide +kernel, by decide +kernel, by decide +kernel⟩
theorem hn_L_setBorder : Y_L_setBorder.1.cls ≠ "java/lang/invoke/MethodHandle" ∧ Y_L_setBorder.1.cls ≠ "java/lang/invoke/VarHandle" ∧ (parseMethodDescriptor Y_L_setBorder.1.desc).map (fun d => d.parameters.length) = some 4 := ⟨by decide +kernel, by decide +kernel, by decide +kernel⟩
theorem hn_L_undo : Y_L_undo.1.cls ≠ "java/lang/invoke/MethodHandle" ∧ Y_L_undo.1.cls ≠ "java/lang/invoke/VarHandle" ∧ (parseMethodDescriptor Y_L_undo.1.desc).map (fun d => d.parameters.length) = some 2 := ⟨by decide +kernel, by decide +kernel, by decide +kernel⟩
theorem hn_L_wouldBe : Y_L_wouldBe.1.cls ≠ "java/lang/invoke/MethodHandle" ∧ Y_L_wouldBe.1.cls ≠ "java/lang/invoke/VarHandle" ∧ (parseMethodDescriptor Y_L_wouldBe.1.desc).map (fun d => d.parameters.length) = some 4 := ⟨by decide +kernel, by decide +kernel, by decide +kernel⟩
theorem hn_L_leastSize : Y_L_leastSize.1.cls ≠ "java/lang/invoke/MethodHandle" ∧ Y_L_leastSize.1.cls ≠ "java/lang/invoke/VarHandle" ∧ (parseMethodDescriptor Y_L_leastSize.1.desc).map (fun d => d.parameters.length) = some 3 := ⟨by decide +kernel, by decide +kernel, by decide +kernel⟩
theorem hn_L_quietIn : Y_L_quietIn.1.cls ≠ "java/lang/invoke/MethodHandle" ∧ Y_L_quietIn.1.cls ≠ "java/lang/invoke/VarHandle" ∧ (parseMethodDescriptor Y_L_quietIn.1.desc).map (fun d => d.parameters.length) = some 3 := ⟨by decide +kernel, by decide +kernel, by decide +kernel⟩
theorem hn_L_replay : Y_L_replay.1.cls ≠ "java/lang/invoke/MethodHandle" ∧ Y_L_replay.1.cls ≠ "java/lang/invoke/VarHandle" ∧ (parseMethodDescriptor Y_L_replay.1.desc).map (fun d => d.parameters.length) = some 5 := ⟨by decide +kernel, by decide +kernel, by decide +kernel⟩
theorem hn_L_bestWindow : Y_L_bestWindow.1.cls ≠ "java/lang/invoke/MethodHandle" ∧ Y_L_bestWindow.1.cls ≠ "java/lang/invoke/VarHandle" ∧ (parseMethodDescriptor Y_L_bestWindow.1.desc).map (fun d => d.parameters.length) = some 3 := ⟨by decide +kernel, by decide +kernel, by decide +kernel⟩
theorem hn_L_runScript : Y_L_runScript.1.cls ≠ "java/lang/invoke/MethodHandle" ∧ Y_L_runScript.1.cls ≠ "java/lang/invoke/VarHandle" ∧ (parseMethodDescriptor Y_L_runScript.1.desc).map (fun d => d.parameters.length) = some 4 := ⟨by decide +kernel, by decide +kernel, by decide +kernel⟩
theorem hn_L_simulate : Y_L_simulate.1.cls ≠ "java/lang/invoke/MethodHandle" ∧ Y_L_simulate.1.cls ≠ "java/lang/invoke/VarHandle" ∧ (parseMethodDescriptor Y_L_simulate.1.desc).map (fun d => d.parameters.length) = some 4 := ⟨by decide +kernel, by decide +kernel, by decide +kernel⟩
theorem hn_L_save : Y_L_save.1.cls ≠ "java/lang/invoke/MethodHandle" ∧ Y_L_save.1.cls ≠ "java/lang/invoke/VarHandle" ∧ (parseMethodDescriptor Y_L_save.1.desc).map (fun d => d.parameters.length) = some 3 := ⟨by decide +kernel, by decide +kernel, by decide +kernel⟩
theorem hn_L_restore : Y_L_restore.1.cls ≠ "java/lang/invoke/MethodHandle" ∧ Y_L_restore.1.cls ≠ "java/lang/invoke/VarHandle" ∧ (parseMethodDescriptor Y_L_restore.1.desc).map (fun d => d.parameters.length) = some 3 := ⟨by decide +kernel, by decide +kernel, by decide +kernel⟩
theorem c_X5_aboutO {E : xEnv} {l : Launch} {x : Bool} {n o T B : Nat} {K : xKnd} {G : xRef} {M : xMem} {L : xLng} {S : xSp} (hl9 : l.stackTraces = false) (h : rX n K G o) (hc : CRel M L o S) (hw : WFS S T B) (hT : T ≤ 2 ^ 29) (w : Int32) : Con E l Y_X5_about [.ref o, .int w] (x, n, K, G, M, L) (xG (kdO w 0 11) (some (.int (aAbout S.2.2.1 w))) S o x n K G M L) (xC (kdO w 0 11) nsA (x, n, K, G, M, L)) := by
  rw [← kdAbout_O]
  exact (c_X5_about hl9 h hc hw hT w).weak (xW_G hc) (fun _ _ q => q)

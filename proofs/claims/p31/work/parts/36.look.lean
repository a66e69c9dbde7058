/-! ===== the whole object: its cells, what they tell; calls that only look ===== -/
def rX (n : Nat) (K : xKnd) (G : xRef) (o : Nat) : Prop :=
  xIs n K o 5 11 ∧ G o 0 = some (o + 1) ∧ rTx n K G (o + 1) ∧ G o 1 = some (o + 3) ∧ rSt n K G (o + 3) ∧ G o 2 = some (o + 18) ∧ rSt n K G (o + 18) ∧ G o 3 = some (o + 33) ∧ rSt n K G (o + 33) ∧
  G o 4 = some (o + 48) ∧ xIs n K (o + 48) 13 14 ∧ (∀ i, i < 14 → G (o + 48) i = some (o + 79 + 15 * i) ∧ rSt n K G (o + 79 + 15 * i)) ∧ G o 7 = some (o + 49) ∧ rSt n K G (o + 49) ∧ G o 8 = some (o + 64) ∧ rSt n K G (o + 64)
/-- what a whole object tells: the text, the present row, how many states are remembered, which (the latest first), which slots are filled, their rows -/
abbrev xSp : Type := Nat × (Nat → Int32) × xRow × Nat × (Nat → xRow) × (Nat → Bool) × (Nat → xRow)
def AlE (M : xMem) (L : xLng) (s : Nat) (R : xRow) : Prop := ∃ w lf v lr, Al M L s R w lf v lr
def rCln : xRow := fun i => if i = 2 then 3 else if i = 3 then 4 else if i = 4 then 20 else if i = 5 then 3000 else if i = 16 then 100 else if i = 17 then 225 else if i = 18 then 400 else if i = 19 then 900 else if i = 20 then 1600 else if i = 21 then 2500 else if i = 22 then 3600 else 0
def kMi (nx i : Nat) : Nat := if i < nx then nx - 1 - i else nx + 13 - i
def bB (b : Bool) : Int32 := if b = true then 1 else 0
def CRel (M : xMem) (L : xLng) (o : Nat) (S : xSp) : Prop :=
  iTx M (o + 1) S.1 ∧ (∀ i, i < S.1 → M (o + 1 + 1) i = S.2.1 i) ∧ AlE M L (o + 3) S.2.2.1 ∧ AlE M L (o + 18) rCln ∧
  (∃ nx, nx < 14 ∧ M o 5 = nI nx ∧ M o 6 = nI S.2.2.2.1 ∧ S.2.2.2.1 ≤ 14 ∧ ∀ i, i < S.2.2.2.1 → AlE M L (o + 79 + 15 * kMi nx i) (S.2.2.2.2.1 i)) ∧
  M o 9 = bB (S.2.2.2.2.2.1 0) ∧ M o 10 = bB (S.2.2.2.2.2.1 1) ∧ (S.2.2.2.2.2.1 0 = true → AlE M L (o + 49) (S.2.2.2.2.2.2 0)) ∧ (S.2.2.2.2.2.1 1 = true → AlE M L (o + 64) (S.2.2.2.2.2.2 1))
/-- all its rows keep to their ranges -/
def WFS (S : xSp) (T B : Nat) : Prop := WFr S.2.2.1 T B ∧ (∀ i, i < S.2.2.2.1 → WFr (S.2.2.2.2.1 i) T B) ∧ (S.2.2.2.2.2.1 0 = true → WFr (S.2.2.2.2.2.2 0) T B) ∧ (S.2.2.2.2.2.1 1 = true → WFr (S.2.2.2.2.2.2 1) T B)
def xC (k : Nat) (ns : List String) (q : xS) : xPX := fun Ex q' => q' = (false, q.2) ∧ 0 < k ∧ ns[k - 1]? = some Ex
theorem xC_mk {k : Nat} {ns : List String} {q : xS} {Ex : String} (i : Nat) (h : k = i + 1) (hn : ns[i]? = some Ex) : xC k ns q Ex (false, q.2) := ⟨rfl, by omega, by rw [h]; exact hn⟩
/-- a call that only looks -/
def xW (k : Nat) (A : Value) (q : xS) : xP := fun r q' => k = 0 ∧ r = some A ∧ q' = q
def nsA : List String := ["java/lang/IllegalArgumentException"]
def nsS : List String := ["java/lang/IllegalStateException"]
def nsI : List String := ["java/lang/IndexOutOfBoundsException"]
def nsAS : List String := ["java/lang/IllegalArgumentException", "java/lang/IllegalStateException"]
def nsIA : List String := ["java/lang/IndexOutOfBoundsException", "java/lang/IllegalArgumentException"]
def nsIS : List String := ["java/lang/IndexOutOfBoundsException", "java/lang/IllegalStateException"]
def nsIAS : List String := ["java/lang/IndexOutOfBoundsException", "java/lang/IllegalArgumentException", "java/lang/IllegalStateException"]
/-- outside: the only fault -/
def kdO (v a b : Int32) : Nat := if v < a ∨ b < v then 1 else 0
def rDrops (R : xRow) : Int32 := R 6 + R 7 + R 8 + R 9
def rInB (R : xRow) (w : Nat) : Int32 := kSum (fun k => R (23 + 3 * k + w)) 8
def kdAbout (w : Int32) : Nat := if w = 0 ∨ w = 1 ∨ w = 2 ∨ w = 3 ∨ w = 4 ∨ w = 5 ∨ w = 6 ∨ w = 7 ∨ w = 8 ∨ w = 9 ∨ w = 10 ∨ w = 11 then 0 else 1
def aAbout (R : xRow) (w : Int32) : Int32 :=
  if w = 0 then R 0 else if w = 1 then rDrops R else if w = 2 then R 6 else if w = 3 then R 7 else if w = 4 then R 8 else if w = 5 then R 9 else if w = 6 then rInB R 0 else if w = 7 then rInB R 1 else if w = 8 then rLev R (R 0) else if w = 9 then R 108 else if w = 10 then R 47 else R 13
def rLow (R : xRow) (k : Nat) : Int32 := if k = 0 then 0 else R (15 + k)
def rHigh (R : xRow) (k : Nat) : Int32 := if k = 7 then 5000 else R (16 + k) - 1
def kdBin (k w : Int32) : Nat := if k < 0 ∨ 7 < k then 1 else if w = 0 ∨ w = 1 ∨ w = 2 ∨ w = 3 ∨ w = 4 then 0 else 2
def aBin (R : xRow) (k : Nat) (w : Int32) : Int32 := if w = 0 then rLow R k else if w = 1 then rHigh R k else if w = 2 then R (23 + 3 * k) else if w = 3 then R (24 + 3 * k) else R (25 + 3 * k)
def aPulse (R : xRow) (w : Int32) : Int32 := if R 13 = 0 then -9 else if w = 0 then R 0 - R 11 else if w = 1 then R 12 else if w = 2 then R 14 else R 15
def aFate (R : xRow) (lf j : Nat) : Int32 := if j < lf then R (48 + (lf - 1 - j)) else -9
section P36
variable {M M' : xMem} {L L' : xLng} {o s p : Nat} {R R' : xRow} {T B tl c w lf v lr : Nat} {tc : Nat → Int32} {H F : Nat → xRow} {f : Nat → Bool}
theorem kSum_congr {g h : Nat → Int32} : ∀ n, (∀ i, i < n → g i = h i) → kSum g n = kSum h n
  | 0, _ => rfl
  | n + 1, q => by unfold kSum; rw [kSum_congr n (fun i hi => q i (by omega)), q n (by omega)]
theorem AlP.low (h : AlP M p R) {k : Nat} (hk : k < 8) : kLow M p k = rLow R k := by
  unfold kLow rLow
  split
  next e => subst e; exact h.2.2.2.2.2.2.2.2.1
  next e =>
    have := h.2.2.2.2.2.2.2.2.2.1 (k - 1) (by omega)
    rw [show k - 1 + 1 = k by omega, show 16 + (k - 1) = 15 + k by omega] at this
    exact this
theorem AlP.high (h : AlP M p R) {k : Nat} (hk : k < 8) : kUp M p k = rHigh R k := by
  unfold kUp rHigh
  by_cases e : k = 7
  · rw [if_neg (by omega), if_pos e]
  · rw [if_pos (by omega), if_neg e, h.2.2.2.2.2.2.2.2.2.1 k (by omega)]
theorem AlP.inB (h : AlP M p R) : kSum (M (p + 3)) 8 = rInB R 0 ∧ kSum (M (p + 4)) 8 = rInB R 1 :=
  ⟨kSum_congr 8 fun i hi => h.2.2.2.2.2.2.2.2.2.2.1 i hi, kSum_congr 8 fun i hi => (h.2.2.2.2.2.2.2.2.2.2.2.1 i hi).trans (by congr 1; omega)⟩
theorem AlA.drops {a : Nat} (h : AlA M L a R w lf v lr) : kSum (M (a + 1)) 4 = rDrops R := by
  unfold rDrops
  rw [← h.2.1 0 (by decide), ← h.2.1 1 (by decide), ← h.2.1 2 (by decide), ← h.2.1 3 (by decide)]
  simp [kSum]
theorem kSg_eq {g h : Nat → Int32} {len : Nat} (e : ∀ i, i < len → g i = h i) : kSg g len = kSg h len := by
  funext j; unfold kSg; split
  next q => exact e j q
  next => rfl
theorem Al.levw (h : Al M L s R w lf v lr) (hw : WFr R T B) (hT : T ≤ 2 ^ 29) {d : Nat} (hd : d ≤ 1000) : kLev M (s + 1) (M (s + 1) 0 + nI d) = rLev R (R 0 + nI d) := by
  have hl := hw.l
  obtain ⟨-, -, -, -, -, -, -, -, -, ⟨t0, s0, la, e1, e2, e3, e4, e5, e6⟩, -⟩ := hw
  rw [h.1.1, e1, nI_add]
  exact h.1.lev (s := s0) hl (by omega) (by omega) e2
end P36
section C36
variable {E : xEnv} {l : Launch} {x : Bool} {n : Nat} {K : xKnd} {G : xRef} {M : xMem} {L : xLng} {o T B : Nat} {S : xSp}
theorem c_X1_backO {b N w len : Nat} (h : rLn n K G b N) (hi : iLn M b N w len) {v : Int32} (hv : v < 0 ∨ ¬ v < nI len) : Con E l Y_X1_back [.ref b, .int v] (x, n, K, G, M, L) (xR (some (.int (-9))) (x, n, K, G, M, L)) xF := by
  obtain ⟨h1, g1, h2, h3⟩ := h
  obtain ⟨i1, i2, i3, i4⟩ := hi
  refine Con.mk 1 mp_X1_back rfl (ls := [some (.ref b), some (.int v), none]) rfl (Nat.le_of_ble_eq_true rfl) ?_
  refine V_ild1 dX1_back_0 ?_
  refine V_if_lt (tgt := 12) dX1_back_1 (by decide) (fun q1 => ?_) (fun q1 => ?_)
  · refine V_bipush (v := (-9)) dX1_back_12 (by decide) ?_
    exact V_iret rfl dX1_back_14 (by decide) (by decide) ⟨rfl, rfl⟩
  · refine V_ild1 dX1_back_4 ?_
    refine V_ald0 dX1_back_5 ?_
    refine V_getI fd_X1_15 dX1_back_6 (by assumption) rfl ?_
    refine V_icmp_lt (tgt := 15) dX1_back_9 (by decide) (fun h9 => ?_) (fun h9 => ?_)
    · rw [i3] at h9
      exact absurd hv (fun q => q.elim q1 (fun q2 => q2 h9))
    · refine V_bipush (v := (-9)) dX1_back_12 (by decide) ?_
      exact V_iret rfl dX1_back_14 (by decide) (by decide) ⟨rfl, rfl⟩
theorem c_X5_append (hl9 : l.stackTraces = false) (h : rX n K G o) (hc : CRel M L o S) (c : Int32) : Con E l Y_X5_append [.ref o, .int c] (x, n, K, G, M, L)
    (fun r q' => ¬ (c < 0 ∨ 255 < c) ∧ S.1 < 100 ∧ r = some (.int (nI (S.1 + 1))) ∧ q' = (x, n, K, G, xup (xup M (o + 1 + 1) S.1 c) (o + 1) 1 (nI (S.1 + 1)), L)) (xC (if c < 0 ∨ 255 < c then 1 else if S.1 < 100 then 0 else 2) nsAS (x, n, K, G, M, L)) := by
  obtain ⟨h0, g0, hT, -⟩ := h
  obtain ⟨c0, -⟩ := hc
  have hT0 := hT.1
  refine Con.mk 0 mp_X5_append rfl (ls := [some (.ref o), some (.int c)]) rfl (Nat.le_of_ble_eq_true rfl) ?_
  refine V_ild1 dX5_append_0 ?_
  refine V_iconst (v := 0) dX5_append_1 (by decide) ?_
  refine V_sipush (v := 255) dX5_append_2 (by decide) ?_
  refine V_cs3R lk_X5_53 cc_X5_isOutside dX5_append_5 (c_X5_isOutside _ _ _) ft_X5_append_X5_isOutside rfl rfl (Nat.le_of_ble_eq_true rfl) ?_
  refine V_if_eq (tgt := 21) dX5_append_8 (by decide) (fun h8 => ?_) (fun h8 => ?_)
  · rw [bI0] at h8
    refine V_ald0 dX5_append_21 ?_
    refine V_getR fd_X5_10 dX5_append_22 (by assumption) (by assumption) rfl ?_
    refine V_cv0R lk_X5_64 cc_X4_isFull dX5_append_25 (by assumption) (c_X4_isFull hT c0) ft_X5_append_X4_isFull rfl rfl (Nat.le_of_ble_eq_true rfl) ?_
    refine V_if_eq (tgt := 41) dX5_append_28 (by decide) (fun h28 => ?_) (fun h28 => ?_)
    · rw [bI0, Decidable.not_not] at h28
      refine V_ald0 dX5_append_41 ?_
      refine V_getR fd_X5_10 dX5_append_42 (by assumption) (by assumption) rfl ?_
      refine V_ild1 dX5_append_45 ?_
      refine V_cv1R lk_X5_73 cc_X4_add dX5_append_46 (by assumption) (c_X4_add hT c0 c h28) ft_X5_append_X4_add rfl rfl (Nat.le_of_ble_eq_true rfl) ?_
      exact V_iret rfl dX5_append_49 (by decide) (by decide) ⟨h8, h28, rfl, rfl⟩
    · rw [bI0, Decidable.not_not] at h28
      exact V_throw th_X5_70 hl9 rfl dX5_append_31 dX5_append_34 dX5_append_35 dX5_append_37 dX5_append_40 (by decide) (by decide) (by decide) (by decide) (xC_mk 1 (by rw [if_neg h8, if_neg h28]) rfl)
  · rw [bI0, Decidable.not_not] at h8
    exact V_throw th_X5_59 hl9 rfl dX5_append_11 dX5_append_14 dX5_append_15 dX5_append_17 dX5_append_20 (by decide) (by decide) (by decide) (by decide) (xC_mk 0 (by rw [if_pos h8]) rfl)
theorem c_X5_clearText (h : rX n K G o) (hc : CRel M L o S) : Con E l Y_X5_clearText [.ref o] (x, n, K, G, M, L) (xR (some (.int (nI S.1))) (x, n, K, G, xup M (o + 1) 1 0, L)) xF := by
  obtain ⟨h0, g0, hT, -⟩ := h
  obtain ⟨c0, -⟩ := hc
  have hT0 := hT.1
  refine Con.mk 0 mp_X5_clearText rfl (ls := [some (.ref o)]) rfl (Nat.le_of_ble_eq_true rfl) ?_
  refine V_ald0 dX5_clearText_0 ?_
  refine V_getR fd_X5_10 dX5_clearText_1 (by assumption) (by assumption) rfl ?_
  refine V_cv0R lk_X5_77 cc_X4_wipe dX5_clearText_4 (by assumption) (c_X4_wipe hT) ft_X5_clearText_X4_wipe rfl rfl (Nat.le_of_ble_eq_true rfl) ?_
  exact V_iret rfl dX5_clearText_7 (by decide) (by decide) ⟨by rw [c0.1], rfl⟩
theorem c_X5_errorPosition (h : rX n K G o) (hc : CRel M L o S) : Con E l Y_X5_errorPosition [.ref o] (x, n, K, G, M, L) (xR (some (.int (kFirst (kSg S.2.1 S.1) S.1))) (x, n, K, G, M, L)) xF := by
  obtain ⟨h0, g0, hT, -⟩ := h
  obtain ⟨c0, c1, -⟩ := hc
  have hT0 := hT.1
  refine Con.mk 0 mp_X5_errorPosition rfl (ls := [some (.ref o)]) rfl (Nat.le_of_ble_eq_true rfl) ?_
  refine V_ald0 dX5_errorPosition_0 ?_
  refine V_getR fd_X5_10 dX5_errorPosition_1 (by assumption) (by assumption) rfl ?_
  refine V_cv0R lk_X5_81 cc_X4_firstError dX5_errorPosition_4 (by assumption) (c_X4_firstError hT c0) ft_X5_errorPosition_X4_firstError rfl rfl (Nat.le_of_ble_eq_true rfl) ?_
  exact V_iret rfl dX5_errorPosition_7 (by decide) (by decide) ⟨by rw [kSg_eq c1], rfl⟩
theorem c_X5_about (hl9 : l.stackTraces = false) (h : rX n K G o) (hc : CRel M L o S) (hw : WFS S T B) (hT : T ≤ 2 ^ 29) (w : Int32) : Con E l Y_X5_about [.ref o, .int w] (x, n, K, G, M, L) (xW (kdAbout w) (.int (aAbout S.2.2.1 w)) (x, n, K, G, M, L)) (xC (kdAbout w) nsA (x, n, K, G, M, L)) := by
  obtain ⟨h0, -, -, g1, ⟨hs0, gp, hp, ga, ha⟩, -⟩ := h
  obtain ⟨-, -, ⟨w9, lf, v, lr, hA⟩, -⟩ := hc
  have hp0 := hp.1
  have hA0 := ha
  have hpl := hp
  obtain ⟨ha0, -, -, gf, hf, gz, hz, -⟩ := ha
  have hf0 := hf.1
  have hz0 := hz.1
  have e0 := hA.levw hw.1 hT (d := 0) (by decide)
  rw [show nI 0 = (0 : Int32) from rfl, Int32.add_zero, Int32.add_zero] at e0
  obtain ⟨hP, hQ⟩ := hA
  obtain ⟨-, -, -, -, -, g9, h9, g10, h10, -⟩ := hp
  refine Con.mk 2 mp_X5_about rfl (ls := [some (.ref o), some (.int w), none, none]) rfl (Nat.le_of_ble_eq_true rfl) ?_
  refine V_ald0 dX5_about_0 ?_
  refine V_getR fd_X5_19 dX5_about_1 (by assumption) (by assumption) rfl ?_
  refine V_getR fd_X5_109 dX5_about_4 (by assumption) (by assumption) rfl ?_
  refine V_ast2 dX5_about_7 rfl (by decide) ?_
  refine V_ald0 dX5_about_8 ?_
  refine V_getR fd_X5_19 dX5_about_9 (by assumption) (by assumption) rfl ?_
  refine V_getR fd_X5_100 dX5_about_12 (by assumption) (by assumption) rfl ?_
  refine V_ast3 dX5_about_15 rfl (by decide) ?_
  refine V_ild1 dX5_about_16 ?_
  refine V_topi (fun y17 e17 => ?_)
  by_cases s17_0 : y17 = 0
  · subst s17_0
    refine V_tableIn (tgt := 80) dX5_about_17 (by decide) (by decide) (off := 63) (by decide) (by decide) ?_
    refine V_ald2 dX5_about_80 ?_
    refine V_getI fd_X5_113 dX5_about_81 (by assumption) rfl ?_
    exact V_iret rfl dX5_about_84 (by decide) (by decide) ⟨by simp [kdAbout, ← e17], by rw [hP.1]; simp [aAbout, ← e17], rfl⟩
  by_cases s17_1 : y17 = 1
  · subst s17_1
    refine V_tableIn (tgt := 85) dX5_about_17 (by decide) (by decide) (off := 68) (by decide) (by decide) ?_
    refine V_ald3 dX5_about_85 ?_
    refine V_cv0R lk_X5_104 cc_X0_dropCount dX5_about_86 (by assumption) (c_X0_dropCount hA0) ft_X5_about_X0_dropCount rfl rfl (Nat.le_of_ble_eq_true rfl) ?_
    exact V_iret rfl dX5_about_89 (by decide) (by decide) ⟨by simp [kdAbout, ← e17], by rw [hQ.drops]; simp [aAbout, ← e17], rfl⟩
  by_cases s17_2 : y17 = 2
  · subst s17_2
    refine V_tableIn (tgt := 90) dX5_about_17 (by decide) (by decide) (off := 73) (by decide) (by decide) ?_
    refine V_ald3 dX5_about_90 ?_
    refine V_iconst (v := 0) dX5_about_91 (by decide) ?_
    refine V_cv1R lk_X5_118 cc_X0_countOf dX5_about_92 (by assumption) (c_X0_countOf (f := 0) hA0 (by decide)) ft_X5_about_X0_countOf rfl rfl (Nat.le_of_ble_eq_true rfl) ?_
    exact V_iret rfl dX5_about_95 (by decide) (by decide) ⟨by simp [kdAbout, ← e17], by rw [hQ.2.1 0 (by decide)]; simp [aAbout, ← e17], rfl⟩
  by_cases s17_3 : y17 = 3
  · subst s17_3
    refine V_tableIn (tgt := 96) dX5_about_17 (by decide) (by decide) (off := 79) (by decide) (by decide) ?_
    refine V_ald3 dX5_about_96 ?_
    refine V_iconst (v := 1) dX5_about_97 (by decide) ?_
    refine V_cv1R lk_X5_118 cc_X0_countOf dX5_about_98 (by assumption) (c_X0_countOf (f := 1) hA0 (by decide)) ft_X5_about_X0_countOf rfl rfl (Nat.le_of_ble_eq_true rfl) ?_
    exact V_iret rfl dX5_about_101 (by decide) (by decide) ⟨by simp [kdAbout, ← e17], by rw [hQ.2.1 1 (by decide)]; simp [aAbout, ← e17], rfl⟩
  by_cases s17_4 : y17 = 4
  · subst s17_4
    refine V_tableIn (tgt := 102) dX5_about_17 (by decide) (by decide) (off := 85) (by decide) (by decide) ?_
    refine V_ald3 dX5_about_102 ?_
    refine V_iconst (v := 2) dX5_about_103 (by decide) ?_
    refine V_cv1R lk_X5_118 cc_X0_countOf dX5_about_104 (by assumption) (c_X0_countOf (f := 2) hA0 (by decide)) ft_X5_about_X0_countOf rfl rfl (Nat.le_of_ble_eq_true rfl) ?_
    exact V_iret rfl dX5_about_107 (by decide) (by decide) ⟨by simp [kdAbout, ← e17], by rw [hQ.2.1 2 (by decide)]; simp [aAbout, ← e17], rfl⟩
  by_cases s17_5 : y17 = 5
  · subst s17_5
    refine V_tableIn (tgt := 108) dX5_about_17 (by decide) (by decide) (off := 91) (by decide) (by decide) ?_
    refine V_ald3 dX5_about_108 ?_
    refine V_iconst (v := 3) dX5_about_109 (by decide) ?_
    refine V_cv1R lk_X5_118 cc_X0_countOf dX5_about_110 (by assumption) (c_X0_countOf (f := 3) hA0 (by decide)) ft_X5_about_X0_countOf rfl rfl (Nat.le_of_ble_eq_true rfl) ?_
    exact V_iret rfl dX5_about_113 (by decide) (by decide) ⟨by simp [kdAbout, ← e17], by rw [hQ.2.1 3 (by decide)]; simp [aAbout, ← e17], rfl⟩
  by_cases s17_6 : y17 = 6
  · subst s17_6
    refine V_tableIn (tgt := 114) dX5_about_17 (by decide) (by decide) (off := 97) (by decide) (by decide) ?_
    refine V_ald2 dX5_about_114 ?_
    refine V_getR fd_X5_121 dX5_about_115 (by assumption) (by assumption) rfl ?_
    refine V_cs1R lk_X5_125 cc_X5_sumOf dX5_about_118 (c_X5_sumOf (N := 8) (by assumption)) ft_X5_about_X5_sumOf rfl rfl (Nat.le_of_ble_eq_true rfl) ?_
    exact V_iret rfl dX5_about_121 (by decide) (by decide) ⟨by simp [kdAbout, ← e17], by rw [hP.inB.1]; simp [aAbout, ← e17], rfl⟩
  by_cases s17_7 : y17 = 7
  · subst s17_7
    refine V_tableIn (tgt := 122) dX5_about_17 (by decide) (by decide) (off := 105) (by decide) (by decide) ?_
    refine V_ald2 dX5_about_122 ?_
    refine V_getR fd_X5_129 dX5_about_123 (by assumption) (by assumption) rfl ?_
    refine V_cs1R lk_X5_125 cc_X5_sumOf dX5_about_126 (c_X5_sumOf (N := 8) (by assumption)) ft_X5_about_X5_sumOf rfl rfl (Nat.le_of_ble_eq_true rfl) ?_
    exact V_iret rfl dX5_about_129 (by decide) (by decide) ⟨by simp [kdAbout, ← e17], by rw [hP.inB.2]; simp [aAbout, ← e17], rfl⟩
  by_cases s17_8 : y17 = 8
  · subst s17_8
    refine V_tableIn (tgt := 130) dX5_about_17 (by decide) (by decide) (off := 113) (by decide) (by decide) ?_
    refine V_ald2 dX5_about_130 ?_
    refine V_ald2 dX5_about_131 ?_
    refine V_getI fd_X5_113 dX5_about_132 (by assumption) rfl ?_
    refine V_cv1R lk_X5_132 cc_X2_levelAt dX5_about_135 (by assumption) (c_X2_levelAt hpl _) ft_X5_about_X2_levelAt rfl rfl (Nat.le_of_ble_eq_true rfl) ?_
    exact V_iret rfl dX5_about_138 (by decide) (by decide) ⟨by simp [kdAbout, ← e17], by rw [e0]; simp [aAbout, ← e17], rfl⟩
  by_cases s17_9 : y17 = 9
  · subst s17_9
    refine V_tableIn (tgt := 139) dX5_about_17 (by decide) (by decide) (off := 122) (by decide) (by decide) ?_
    refine V_ald3 dX5_about_139 ?_
    refine V_getR fd_X5_135 dX5_about_140 (by assumption) (by assumption) rfl ?_
    refine V_getI fd_X5_139 dX5_about_143 (by assumption) rfl ?_
    exact V_iret rfl dX5_about_146 (by decide) (by decide) ⟨by simp [kdAbout, ← e17], by rw [hQ.1.2.1.2.2.1, ← hQ.2.2.2.2.2.1]; simp [aAbout, ← e17], rfl⟩
  by_cases s17_10 : y17 = 10
  · subst s17_10
    refine V_tableIn (tgt := 147) dX5_about_17 (by decide) (by decide) (off := 130) (by decide) (by decide) ?_
    refine V_ald3 dX5_about_147 ?_
    refine V_getR fd_X5_142 dX5_about_148 (by assumption) (by assumption) rfl ?_
    refine V_getI fd_X5_139 dX5_about_151 (by assumption) rfl ?_
    exact V_iret rfl dX5_about_154 (by decide) (by decide) ⟨by simp [kdAbout, ← e17], by rw [hQ.1.1.2.2.1, ← hQ.2.2.2.2.1]; simp [aAbout, ← e17], rfl⟩
  by_cases s17_11 : y17 = 11
  · subst s17_11
    refine V_tableIn (tgt := 155) dX5_about_17 (by decide) (by decide) (off := 138) (by decide) (by decide) ?_
    refine V_ald2 dX5_about_155 ?_
    refine V_getI fd_X5_145 dX5_about_156 (by assumption) rfl ?_
    refine V_if_eq (tgt := 166) dX5_about_159 (by decide) (fun h159 => ?_) (fun h159 => ?_)
    · refine V_iconst (v := 0) dX5_about_166 (by decide) ?_
      exact V_iret rfl dX5_about_167 (by decide) (by decide) ⟨by simp [kdAbout, ← e17], by rw [hP.2.2.2.2.1] at h159; have := hw.1.2.2.2.2.2.2.1; simp [aAbout, ← e17]; grind, rfl⟩
    · refine V_iconst (v := 1) dX5_about_162 (by decide) ?_
      refine V_goto (tgt := 167) dX5_about_163 (by decide) ?_
      exact V_iret rfl dX5_about_167 (by decide) (by decide) ⟨by simp [kdAbout, ← e17], by rw [hP.2.2.2.2.1] at h159; have := hw.1.2.2.2.2.2.2.1; simp [aAbout, ← e17]; grind, rfl⟩
  refine V_tableOut (tgt := 168) dX5_about_17 (by have q0 := xne s17_0; have q1 := xne s17_1; have q2 := xne s17_2; have q3 := xne s17_3; have q4 := xne s17_4; have q5 := xne s17_5; have q6 := xne s17_6; have q7 := xne s17_7; have q8 := xne s17_8; have q9 := xne s17_9; have q10 := xne s17_10; have q11 := xne s17_11; simp only [xlit_0, xlit_1, xlit_2, xlit_3, xlit_4, xlit_5, xlit_6, xlit_7, xlit_8, xlit_9, xlit_10, xlit_11] at q0 q1 q2 q3 q4 q5 q6 q7 q8 q9 q10 q11; omega) (by decide) ?_
  exact V_throw th_X5_148 hl9 rfl dX5_about_168 dX5_about_171 dX5_about_172 dX5_about_174 dX5_about_177 (by decide) (by decide) (by decide) (by decide) (xC_mk 0 (by unfold kdAbout; rw [← e17]; exact if_neg (fun q => by rcases q with q | q | q | q | q | q | q | q | q | q | q | q <;> contradiction)) rfl)
theorem c_X5_setting (hl9 : l.stackTraces = false) (h : rX n K G o) (hc : CRel M L o S) (w : Int32) : Con E l Y_X5_setting [.ref o, .int w] (x, n, K, G, M, L) (xW (kdO w 0 4) (.int (S.2.2.1 (1 + w.toNatClampNeg))) (x, n, K, G, M, L)) (xC (kdO w 0 4) nsA (x, n, K, G, M, L)) := by
  obtain ⟨h0, -, -, g1, ⟨hs0, gp, hp, ga, ha⟩, -⟩ := h
  obtain ⟨-, -, ⟨w9, lf, v, lr, hA⟩, -⟩ := hc
  have hpl := hp
  obtain ⟨hp0, gs, hss, -⟩ := hp
  refine Con.mk 0 mp_X5_setting rfl (ls := [some (.ref o), some (.int w)]) rfl (Nat.le_of_ble_eq_true rfl) ?_
  refine V_ild1 dX5_setting_0 ?_
  refine V_iconst (v := 0) dX5_setting_1 (by decide) ?_
  refine V_iconst (v := 4) dX5_setting_2 (by decide) ?_
  refine V_cs3R lk_X5_53 cc_X5_isOutside dX5_setting_3 (c_X5_isOutside _ _ _) ft_X5_setting_X5_isOutside rfl rfl (Nat.le_of_ble_eq_true rfl) ?_
  refine V_if_eq (tgt := 19) dX5_setting_6 (by decide) (fun h6 => ?_) (fun h6 => ?_)
  · rw [bI0] at h6
    have h6' := h6
    rw [not_or] at h6'
    obtain ⟨k, hk, rfl⟩ := xIdx (N := 4) (by decide) h6'.1 h6'.2
    refine V_ald0 dX5_setting_19 ?_
    refine V_getR fd_X5_19 dX5_setting_20 (by assumption) (by assumption) rfl ?_
    refine V_getR fd_X5_109 dX5_setting_23 (by assumption) (by assumption) rfl ?_
    refine V_getR fd_X5_152 dX5_setting_26 (by assumption) (by assumption) rfl ?_
    refine V_ild1 dX5_setting_29 ?_
    refine V_iald (j := k) dX5_setting_30 (by assumption) rfl (by omega) ?_
    exact V_iret rfl dX5_setting_31 (by decide) (by decide) ⟨by unfold kdO; rw [if_neg h6], by rw [nI_clamp (by omega), hA.1.2.2.2.2.2.2.2.1 k (by omega)], rfl⟩
  · rw [bI0, Decidable.not_not] at h6
    exact V_throw th_X5_150 hl9 rfl dX5_setting_9 dX5_setting_12 dX5_setting_13 dX5_setting_15 dX5_setting_18 (by decide) (by decide) (by decide) (by decide) (xC_mk 0 (by unfold kdO; rw [if_pos h6]) rfl)
theorem c_X5_bin (hl9 : l.stackTraces = false) (h : rX n K G o) (hc : CRel M L o S) (k w : Int32) : Con E l Y_X5_bin [.ref o, .int k, .int w] (x, n, K, G, M, L) (xW (kdBin k w) (.int (aBin S.2.2.1 k.toNatClampNeg w)) (x, n, K, G, M, L)) (xC (kdBin k w) nsIA (x, n, K, G, M, L)) := by
  obtain ⟨h0, -, -, g1, ⟨hs0, gp, hp, ga, ha⟩, -⟩ := h
  obtain ⟨-, -, ⟨w9, lf, v, lr, hA⟩, -⟩ := hc
  have hpl := hp
  obtain ⟨hp0, gs, hss, gb, hb, g9, h9, g10, h10, g11, h11⟩ := hp
  refine Con.mk 1 mp_X5_bin rfl (ls := [some (.ref o), some (.int k), some (.int w), none]) rfl (Nat.le_of_ble_eq_true rfl) ?_
  refine V_ild1 dX5_bin_0 ?_
  refine V_iconst (v := 0) dX5_bin_1 (by decide) ?_
  refine V_bipush (v := 7) dX5_bin_2 (by decide) ?_
  refine V_cs3R lk_X5_53 cc_X5_isOutside dX5_bin_4 (c_X5_isOutside _ _ _) ft_X5_bin_X5_isOutside rfl rfl (Nat.le_of_ble_eq_true rfl) ?_
  refine V_if_eq (tgt := 20) dX5_bin_7 (by decide) (fun h7 => ?_) (fun h7 => ?_)
  · rw [bI0] at h7
    have h6' := h7
    rw [not_or] at h6'
    obtain ⟨j, hj, rfl⟩ := xIdx (N := 7) (by decide) h6'.1 h6'.2
    rw [nI_clamp (n := j) (by omega)]
    refine V_ald0 dX5_bin_20 ?_
    refine V_getR fd_X5_19 dX5_bin_21 (by assumption) (by assumption) rfl ?_
    refine V_getR fd_X5_109 dX5_bin_24 (by assumption) (by assumption) rfl ?_
    refine V_ast3 dX5_bin_27 rfl (by decide) ?_
    refine V_ild2 dX5_bin_28 ?_
    refine V_topi (fun y29 e29 => ?_)
    by_cases s29_0 : y29 = 0
    · subst s29_0
      refine V_tableIn (tgt := 64) dX5_bin_29 (by decide) (by decide) (off := 35) (by decide) (by decide) ?_
      refine V_ald3 dX5_bin_64 ?_
      refine V_ild1 dX5_bin_65 ?_
      refine V_cv1R lk_X5_160 cc_X2_lowerEnd dX5_bin_66 (by assumption) (c_X2_lowerEnd hpl (by omega)) ft_X5_bin_X2_lowerEnd rfl rfl (Nat.le_of_ble_eq_true rfl) ?_
      exact V_iret rfl dX5_bin_69 (by decide) (by decide) ⟨by simp [kdBin, ← e29, h7], by rw [hA.1.low (by omega)]; simp [aBin, ← e29], rfl⟩
    by_cases s29_1 : y29 = 1
    · subst s29_1
      refine V_tableIn (tgt := 70) dX5_bin_29 (by decide) (by decide) (off := 41) (by decide) (by decide) ?_
      refine V_ald3 dX5_bin_70 ?_
      refine V_ild1 dX5_bin_71 ?_
      refine V_cv1R lk_X5_163 cc_X2_upperEnd dX5_bin_72 (by assumption) (c_X2_upperEnd hpl (by omega)) ft_X5_bin_X2_upperEnd rfl rfl (Nat.le_of_ble_eq_true rfl) ?_
      exact V_iret rfl dX5_bin_75 (by decide) (by decide) ⟨by simp [kdBin, ← e29, h7], by rw [hA.1.high (by omega)]; simp [aBin, ← e29], rfl⟩
    by_cases s29_2 : y29 = 2
    · subst s29_2
      refine V_tableIn (tgt := 76) dX5_bin_29 (by decide) (by decide) (off := 47) (by decide) (by decide) ?_
      refine V_ald3 dX5_bin_76 ?_
      refine V_getR fd_X5_121 dX5_bin_77 (by assumption) (by assumption) rfl ?_
      refine V_ild1 dX5_bin_80 ?_
      refine V_iald (j := j) dX5_bin_81 (by assumption) rfl (by omega) ?_
      exact V_iret rfl dX5_bin_82 (by decide) (by decide) ⟨by simp [kdBin, ← e29, h7], by rw [hA.1.2.2.2.2.2.2.2.2.2.2.1 j (by omega)]; simp [aBin, ← e29], rfl⟩
    by_cases s29_3 : y29 = 3
    · subst s29_3
      refine V_tableIn (tgt := 83) dX5_bin_29 (by decide) (by decide) (off := 54) (by decide) (by decide) ?_
      refine V_ald3 dX5_bin_83 ?_
      refine V_getR fd_X5_129 dX5_bin_84 (by assumption) (by assumption) rfl ?_
      refine V_ild1 dX5_bin_87 ?_
      refine V_iald (j := j) dX5_bin_88 (by assumption) rfl (by omega) ?_
      exact V_iret rfl dX5_bin_89 (by decide) (by decide) ⟨by simp [kdBin, ← e29, h7], by rw [hA.1.2.2.2.2.2.2.2.2.2.2.2.1 j (by omega)]; simp [aBin, ← e29], rfl⟩
    by_cases s29_4 : y29 = 4
    · subst s29_4
      refine V_tableIn (tgt := 90) dX5_bin_29 (by decide) (by decide) (off := 61) (by decide) (by decide) ?_
      refine V_ald3 dX5_bin_90 ?_
      refine V_getR fd_X5_166 dX5_bin_91 (by assumption) (by assumption) rfl ?_
      refine V_ild1 dX5_bin_94 ?_
      refine V_iald (j := j) dX5_bin_95 (by assumption) rfl (by omega) ?_
      exact V_iret rfl dX5_bin_96 (by decide) (by decide) ⟨by simp [kdBin, ← e29, h7], by rw [hA.1.2.2.2.2.2.2.2.2.2.2.2.2 j (by omega)]; simp [aBin, ← e29], rfl⟩
    refine V_tableOut (tgt := 97) dX5_bin_29 (by have q0 := xne s29_0; have q1 := xne s29_1; have q2 := xne s29_2; have q3 := xne s29_3; have q4 := xne s29_4; simp only [xlit_0, xlit_1, xlit_2, xlit_3, xlit_4] at q0 q1 q2 q3 q4; omega) (by decide) ?_
    exact V_throw th_X5_169 hl9 rfl dX5_bin_97 dX5_bin_100 dX5_bin_101 dX5_bin_103 dX5_bin_106 (by decide) (by decide) (by decide) (by decide) (xC_mk 1 (by unfold kdBin; rw [if_neg h7, ← e29]; exact if_neg (fun q => by rcases q with q | q | q | q | q <;> contradiction)) rfl)
  · rw [bI0, Decidable.not_not] at h7
    exact V_throw th_X5_157 hl9 rfl dX5_bin_10 dX5_bin_13 dX5_bin_14 dX5_bin_16 dX5_bin_19 (by decide) (by decide) (by decide) (by decide) (xC_mk 0 (by unfold kdBin; rw [if_pos h7]) rfl)
theorem c_X5_pulse (hl9 : l.stackTraces = false) (h : rX n K G o) (hc : CRel M L o S) (hw : WFS S T B) (w : Int32) : Con E l Y_X5_pulse [.ref o, .int w] (x, n, K, G, M, L) (xW (kdO w 0 3) (.int (aPulse S.2.2.1 w)) (x, n, K, G, M, L)) (xC (kdO w 0 3) nsA (x, n, K, G, M, L)) := by
  obtain ⟨h0, -, -, g1, ⟨hs0, gp, hp, ga, ha⟩, -⟩ := h
  obtain ⟨-, -, ⟨w9, lf, v, lr, hA⟩, -⟩ := hc
  have hp0 := hp.1
  obtain ⟨⟨a0, a3, a4, a5, a6, a7, a8, -⟩, -⟩ := hA
  refine Con.mk 1 mp_X5_pulse rfl (ls := [some (.ref o), some (.int w), none]) rfl (Nat.le_of_ble_eq_true rfl) ?_
  refine V_ild1 dX5_pulse_0 ?_
  refine V_iconst (v := 0) dX5_pulse_1 (by decide) ?_
  refine V_iconst (v := 3) dX5_pulse_2 (by decide) ?_
  refine V_cs3R lk_X5_53 cc_X5_isOutside dX5_pulse_3 (c_X5_isOutside _ _ _) ft_X5_pulse_X5_isOutside rfl rfl (Nat.le_of_ble_eq_true rfl) ?_
  refine V_if_eq (tgt := 19) dX5_pulse_6 (by decide) (fun h6 => ?_) (fun h6 => ?_)
  · rw [bI0] at h6
    refine V_ald0 dX5_pulse_19 ?_
    refine V_getR fd_X5_19 dX5_pulse_20 (by assumption) (by assumption) rfl ?_
    refine V_getR fd_X5_109 dX5_pulse_23 (by assumption) (by assumption) rfl ?_
    refine V_ast2 dX5_pulse_26 rfl (by decide) ?_
    refine V_ald2 dX5_pulse_27 ?_
    refine V_getI fd_X5_145 dX5_pulse_28 (by assumption) rfl ?_
    refine V_if_ne (tgt := 37) dX5_pulse_31 (by decide) (fun h31 => ?_) (fun h31 => ?_)
    · rw [a6] at h31
      refine V_ild1 dX5_pulse_37 ?_
      refine V_topi (fun y38 e38 => ?_)
      by_cases s38_0 : y38 = 0
      · subst s38_0
        refine V_tableIn (tgt := 64) dX5_pulse_38 (by decide) (by decide) (off := 26) (by decide) (by decide) ?_
        refine V_ald2 dX5_pulse_64 ?_
        refine V_getI fd_X5_113 dX5_pulse_65 (by assumption) rfl ?_
        refine V_ald2 dX5_pulse_68 ?_
        refine V_getI fd_X5_173 dX5_pulse_69 (by assumption) rfl ?_
        refine V_isub dX5_pulse_72 ?_
        exact V_iret rfl dX5_pulse_73 (by decide) (by decide) ⟨by unfold kdO; rw [if_neg h6], by rw [a0, a4]; simp [aPulse, ← e38, h31], rfl⟩
      by_cases s38_1 : y38 = 1
      · subst s38_1
        refine V_tableIn (tgt := 74) dX5_pulse_38 (by decide) (by decide) (off := 36) (by decide) (by decide) ?_
        refine V_ald2 dX5_pulse_74 ?_
        refine V_getI fd_X5_176 dX5_pulse_75 (by assumption) rfl ?_
        exact V_iret rfl dX5_pulse_78 (by decide) (by decide) ⟨by unfold kdO; rw [if_neg h6], by rw [a5]; simp [aPulse, ← e38, h31], rfl⟩
      by_cases s38_2 : y38 = 2
      · subst s38_2
        refine V_tableIn (tgt := 79) dX5_pulse_38 (by decide) (by decide) (off := 41) (by decide) (by decide) ?_
        refine V_ald2 dX5_pulse_79 ?_
        refine V_getI fd_X5_179 dX5_pulse_80 (by assumption) rfl ?_
        exact V_iret rfl dX5_pulse_83 (by decide) (by decide) ⟨by unfold kdO; rw [if_neg h6], by rw [a7]; simp [aPulse, ← e38, h31], rfl⟩
      refine V_tableOut (tgt := 84) dX5_pulse_38 (by have q0 := xne s38_0; have q1 := xne s38_1; have q2 := xne s38_2; simp only [xlit_0, xlit_1, xlit_2] at q0 q1 q2; omega) (by decide) ?_
      refine V_ald2 dX5_pulse_84 ?_
      refine V_getI fd_X5_182 dX5_pulse_85 (by assumption) rfl ?_
      refine V_if_eq (tgt := 95) dX5_pulse_88 (by decide) (fun h88 => ?_) (fun h88 => ?_)
      · refine V_iconst (v := 0) dX5_pulse_95 (by decide) ?_
        exact V_iret rfl dX5_pulse_96 (by decide) (by decide) ⟨by unfold kdO; rw [if_neg h6], by rw [a8] at h88; have := hw.1.2.2.2.2.2.2.2.1; unfold aPulse; rw [if_neg h31, if_neg (by rw [← e38]; exact s38_0), if_neg (by rw [← e38]; exact s38_1), if_neg (by rw [← e38]; exact s38_2)]; grind, rfl⟩
      · refine V_iconst (v := 1) dX5_pulse_91 (by decide) ?_
        refine V_goto (tgt := 96) dX5_pulse_92 (by decide) ?_
        exact V_iret rfl dX5_pulse_96 (by decide) (by decide) ⟨by unfold kdO; rw [if_neg h6], by rw [a8] at h88; have := hw.1.2.2.2.2.2.2.2.1; unfold aPulse; rw [if_neg h31, if_neg (by rw [← e38]; exact s38_0), if_neg (by rw [← e38]; exact s38_1), if_neg (by rw [← e38]; exact s38_2)]; grind, rfl⟩
    · rw [a6] at h31
      refine V_bipush (v := (-9)) dX5_pulse_34 (by decide) ?_
      exact V_iret rfl dX5_pulse_36 (by decide) (by decide) ⟨by unfold kdO; rw [if_neg h6], by unfold aPulse; rw [if_pos h31], rfl⟩
  · rw [bI0, Decidable.not_not] at h6
    exact V_throw th_X5_171 hl9 rfl dX5_pulse_9 dX5_pulse_12 dX5_pulse_13 dX5_pulse_15 dX5_pulse_18 (by decide) (by decide) (by decide) (by decide) (xC_mk 0 (by unfold kdO; rw [if_pos h6]) rfl)
theorem c_X5_fate (hl9 : l.stackTraces = false) (h : rX n K G o) (hc : CRel M L o S) (i : Int32) : Con E l Y_X5_fate [.ref o, .int i] (x, n, K, G, M, L) (xW (if i < 0 then 1 else 0) (.int (aFate S.2.2.1 (S.2.2.1 47).toNatClampNeg i.toNatClampNeg)) (x, n, K, G, M, L)) (xC (if i < 0 then 1 else 0) nsA (x, n, K, G, M, L)) := by
  obtain ⟨h0, -, -, g1, ⟨hs0, gp, hp, ga, ha⟩, -⟩ := h
  obtain ⟨-, -, ⟨w9, lf, v, lr, hA⟩, -⟩ := hc
  obtain ⟨ha0, -, -, gf, hf, -⟩ := ha
  have hf0 := hf.1
  obtain ⟨-, ⟨i1, -⟩, -, -, -, e47, -, t1, -⟩ := hA
  have l60 : lf ≤ 60 := i1.2.2.2
  refine Con.mk 0 mp_X5_fate rfl (ls := [some (.ref o), some (.int i)]) rfl (Nat.le_of_ble_eq_true rfl) ?_
  refine V_ild1 dX5_fate_0 ?_
  refine V_if_ge (tgt := 14) dX5_fate_1 (by decide) (fun h1 => ?_) (fun h1 => ?_)
  · refine V_ald0 dX5_fate_14 ?_
    refine V_getR fd_X5_19 dX5_fate_15 (by assumption) (by assumption) rfl ?_
    refine V_getR fd_X5_100 dX5_fate_18 (by assumption) (by assumption) rfl ?_
    refine V_getR fd_X5_142 dX5_fate_21 (by assumption) (by assumption) rfl ?_
    refine V_ild1 dX5_fate_24 ?_
    obtain ⟨j, j1, rfl⟩ := nI_of h1
    rw [nI_clamp (n := j) j1, e47, nI_clamp (n := lf) (by omega)]
    by_cases hj : j < lf
    · refine V_cv1R lk_X5_187 cc_X1_back dX5_fate_25 (by assumption) (c_X1_back hf i1 hj) ft_X5_fate_X1_back rfl rfl (Nat.le_of_ble_eq_true rfl) ?_
      exact V_iret rfl dX5_fate_28 (by decide) (by decide) ⟨by rw [if_neg h1], by unfold aFate; rw [if_pos hj, t1 j hj], rfl⟩
    · refine V_cv1R lk_X5_187 cc_X1_back dX5_fate_25 (by assumption) (c_X1_backO hf i1 (Or.inr fun q => hj ((nI_ltI j1 (by omega)).mp q))) ft_X5_fate_X1_back rfl rfl (Nat.le_of_ble_eq_true rfl) ?_
      exact V_iret rfl dX5_fate_28 (by decide) (by decide) ⟨by rw [if_neg h1], by unfold aFate; rw [if_neg hj], rfl⟩
  · exact V_throw th_X5_185 hl9 rfl dX5_fate_4 dX5_fate_7 dX5_fate_8 dX5_fate_10 dX5_fate_13 (by decide) (by decide) (by decide) (by decide) (xC_mk 0 (by rw [if_pos h1]) rfl)
end C36

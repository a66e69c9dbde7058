/-! ===== the whole object: the text, slots, load ===== -/
def sText (S : xSp) (c : Int32) : xSp := (S.1 + 1, (fun i => if i = S.1 then c else S.2.1 i), S.2.2)
def sWipe (S : xSp) : xSp := (0, S.2.1, S.2.2)
def rNum (g : Nat → Int32) (a : Nat) : Int32 := (g a - 48) * 10 + (g (a + 1) - 48)
def rPart (g : Nat → Int32) (a : Nat) (R : xRow) : xRow :=
  if g a = 100 then rDr R (rNum g (a + 1)) (rNum g (a + 3)) else if g a = 103 then upR R 3 (g (a + 1) - 48) else if g a = 112 then rGo R (rNum g (a + 1)) else if g a = 116 then upR R 1 (rNum g (a + 1)) else if g a = 119 then upR R 2 (rNum g (a + 1)) else R
def rLoad (g : Nat → Int32) (len : Nat) : Nat → Nat → xRow → xRow
  | 0, _, R => R
  | d + 1, a, R => if a < len then rLoad g len d (a + kPaL g a) (rPart g a R) else R
def sLoad (S : xSp) : xSp := (S.1, S.2.1, rLoad (kSg S.2.1 S.1) S.1 100 1 rCln, 0, S.2.2.2.2.1, (fun _ => false), S.2.2.2.2.2.2)
section P39
variable {M M' : xMem} {L L' : xLng} {o s p a : Nat} {R R' : xRow} {T B tl c w lf v lr : Nat} {S : xSp} {tc : Nat → Int32} {g : Nat → Int32}
theorem CRel.txt (h : CRel M L o S) (hM : ∀ k i, k ≠ o + 1 → k ≠ o + 2 → M' k i = M k i) (ht : iTx M' (o + 1) tl) (hc : ∀ i, i < tl → M' (o + 1 + 1) i = tc i) : CRel M' L o (tl, tc, S.2.2) := by
  obtain ⟨c0, c1, c2, c3, ⟨nx, n1, n2, n3, n4, n5⟩, c5, c6, c7, c8⟩ := h
  have al : ∀ s R, o + 3 ≤ s → AlE M L s R → AlE M' L s R := fun s R q1 q => q.congr (fun k i h1 h2 => hM _ _ (by omega) (by omega)) rfl
  refine ⟨ht, hc, al _ _ (by omega) c2, al _ _ (by omega) c3, ⟨nx, n1, ?_, ?_, n4, fun i hi => al _ _ (by omega) (n5 i hi)⟩, ?_, ?_, fun q => al _ _ (by omega) (c7 q), fun q => al _ _ (by omega) (c8 q)⟩
  · rw [hM _ _ (by omega) (by omega)]; exact n2
  · rw [hM _ _ (by omega) (by omega)]; exact n3
  · rw [hM _ _ (by omega) (by omega)]; exact c5
  · rw [hM _ _ (by omega) (by omega)]; exact c6
theorem CRel.text (h : CRel M L o S) (hl : S.1 < 100) (c : Int32) : CRel (xup (xup M (o + 1 + 1) S.1 c) (o + 1) 1 (nI (S.1 + 1))) L o (sText S c) := by
  refine h.txt (fun k i h1 h2 => by rw [xup_k (by omega), xup_k (by omega)]) ⟨by rw [xup_s], by omega⟩ fun i hi => ?_
  show xup (xup M (o + 1 + 1) S.1 c) (o + 1) 1 (nI (S.1 + 1)) (o + 1 + 1) i = if i = S.1 then c else S.2.1 i
  rw [xup_k (by omega)]
  by_cases e : i = S.1
  · rw [if_pos e, e, xup_s]
  · rw [if_neg e, xup_i (by omega)]; exact h.2.1 i (by omega)
theorem CRel.wipe (h : CRel M L o S) : CRel (xup M (o + 1) 1 0) L o (sWipe S) :=
  h.txt (fun k i h1 h2 => by rw [xup_k (by omega)]) ⟨by rw [xup_s]; rfl, by omega⟩ fun i hi => absurd hi (Nat.not_lt_zero _)
theorem CRel.keep (h : CRel M L o S) {j : Nat} (hj : j < 2) : CRel (xup (kStCp M (o + 3) (o + 49 + 15 * j)) o (9 + j) 1) (kAcCpL L (o + 3 + 7) (o + 49 + 15 * j + 7)) o (sKeep S j) := by
  have cp : AlE (kStCp M (o + 3) (o + 49 + 15 * j)) (kAcCpL L (o + 3 + 7) (o + 49 + 15 * j + 7)) (o + 49 + 15 * j) S.2.2.1 := h.2.2.1.cp (by omega)
  generalize hM1 : kStCp M (o + 3) (o + 49 + 15 * j) = M1 at *
  generalize hL1 : kAcCpL L (o + 3 + 7) (o + 49 + 15 * j + 7) = L1 at *
  have m1 : ∀ k i, (k ≤ o + 49 + 15 * j ∨ o + 49 + 15 * j + 14 < k) → M1 k i = M k i := fun k i q => by rw [← hM1]; exact kStCp_k q
  have l1 : ∀ k i, k ≠ o + 49 + 15 * j + 7 → L1 k i = L k i := fun k i q => by rw [← hL1]; exact kAcCpL_k q
  obtain ⟨c0, c1, c2, c3, ⟨nx, n1, n2, n3, n4, n5⟩, c5, c6, c7, c8⟩ := h
  have al : ∀ s R, (s + 14 ≤ o + 49 + 15 * j ∨ o + 49 + 15 * j + 14 ≤ s) → o ≤ s → AlE M L s R → AlE (xup M1 o (9 + j) 1) L1 s R := fun s R q1 q2 q => q.congr (fun k i h1 h2 => by rw [xup_k (by omega), m1 _ _ (by omega)]) (l1 _ _ (by omega))
  have cp' : AlE (xup M1 o (9 + j) 1) L1 (o + 49 + 15 * j) S.2.2.1 := cp.congr (fun k i h1 h2 => xup_k (by omega)) rfl
  refine ⟨?_, ?_, al _ _ (by omega) (by omega) c2, al _ _ (by omega) (by omega) c3, ⟨nx, n1, ?_, ?_, n4, fun i hi => al _ _ (by omega) (by omega) (n5 i hi)⟩, ?_, ?_, fun q => ?_, fun q => ?_⟩
  · unfold iTx; rw [xup_k (by omega), m1 _ _ (by omega)]; exact c0
  · intro i hi; rw [xup_k (by omega), m1 _ _ (by omega)]; exact c1 i hi
  · rw [xup_i (by omega), m1 _ _ (by omega)]; exact n2
  · rw [xup_i (by omega), m1 _ _ (by omega)]; exact n3
  · show xup M1 o (9 + j) 1 o 9 = bB (if 0 = j then true else S.2.2.2.2.2.1 0)
    by_cases e : 0 = j
    · subst e; rw [if_pos rfl, xup_s]; rfl
    · rw [if_neg e, xup_i (by omega), m1 _ _ (by omega)]; exact c5
  · show xup M1 o (9 + j) 1 o 10 = bB (if 1 = j then true else S.2.2.2.2.2.1 1)
    by_cases e : 1 = j
    · subst e; rw [if_pos rfl, xup_s]; rfl
    · rw [if_neg e, xup_i (by omega), m1 _ _ (by omega)]; exact c6
  · show AlE _ _ (o + 49) (if 0 = j then S.2.2.1 else S.2.2.2.2.2.2 0)
    have q' : (if 0 = j then true else S.2.2.2.2.2.1 0) = true := q
    by_cases e : 0 = j
    · subst e; rw [if_pos rfl]; exact cp'
    · rw [if_neg e] at q' ⊢; exact al _ _ (by omega) (by omega) (c7 q')
  · show AlE _ _ (o + 64) (if 1 = j then S.2.2.1 else S.2.2.2.2.2.2 1)
    have q' : (if 1 = j then true else S.2.2.2.2.2.1 1) = true := q
    by_cases e : 1 = j
    · subst e; rw [if_pos rfl]; exact cp'
    · rw [if_neg e] at q' ⊢; exact al _ _ (by omega) (by omega) (c8 q')
theorem CRel.slot (h : CRel M L o S) {j : Nat} (hj : j < 2) (hf : S.2.2.2.2.2.1 j = true) : AlE M L (o + 49 + 15 * j) (S.2.2.2.2.2.2 j) := by
  have : j = 0 ∨ j = 1 := by omega
  rcases this with rfl | rfl
  · exact h.2.2.2.2.2.2.2.1 hf
  · exact h.2.2.2.2.2.2.2.2 hf
/-- a state copied into the present one; then nothing is remembered -/
theorem CRel.back (h : CRel M L o S) {s : Nat} (hs : o + 18 ≤ s) (hA : AlE M L s R) : CRel (xup (kStCp M s (o + 3)) o 6 0) (kAcCpL L (s + 7) (o + 3 + 7)) o (S.1, S.2.1, R, 0, S.2.2.2.2) := by
  have cp : AlE (kStCp M s (o + 3)) (kAcCpL L (s + 7) (o + 3 + 7)) (o + 3) R := hA.cp (by omega)
  generalize hM1 : kStCp M s (o + 3) = M1 at *
  generalize hL1 : kAcCpL L (s + 7) (o + 3 + 7) = L1 at *
  have m1 : ∀ k i, (k ≤ o + 3 ∨ o + 3 + 14 < k) → M1 k i = M k i := fun k i q => by rw [← hM1]; exact kStCp_k q
  have l1 : ∀ k i, k ≠ o + 3 + 7 → L1 k i = L k i := fun k i q => by rw [← hL1]; exact kAcCpL_k q
  obtain ⟨c0, c1, c2, c3, ⟨nx, n1, n2, n3, n4, n5⟩, c5, c6, c7, c8⟩ := h
  have al : ∀ s R, o + 18 ≤ s → AlE M L s R → AlE (xup M1 o 6 0) L1 s R := fun s R q1 q => q.congr (fun k i h1 h2 => by rw [xup_k (by omega), m1 _ _ (by omega)]) (l1 _ _ (by omega))
  refine ⟨?_, ?_, cp.congr (fun k i h1 h2 => xup_k (by omega)) rfl, al _ _ (by omega) c3, ⟨nx, n1, ?_, ?_, Nat.zero_le _, fun i hi => absurd hi (Nat.not_lt_zero _)⟩, ?_, ?_, fun q => al _ _ (by omega) (c7 q), fun q => al _ _ (by omega) (c8 q)⟩
  · unfold iTx; rw [xup_k (by omega), m1 _ _ (by omega)]; exact c0
  · intro i hi; rw [xup_k (by omega), m1 _ _ (by omega)]; exact c1 i hi
  · rw [xup_i (by decide), m1 _ _ (by omega)]; exact n2
  · rw [xup_s]; rfl
  · rw [xup_i (by decide), m1 _ _ (by omega)]; exact c5
  · rw [xup_i (by decide), m1 _ _ (by omega)]; exact c6
theorem CRel.unf (h : CRel M L o S) : CRel (xup (xup M o 9 0) o 10 0) L o (S.1, S.2.1, S.2.2.1, S.2.2.2.1, S.2.2.2.2.1, (fun _ => false), S.2.2.2.2.2.2) := by
  obtain ⟨c0, c1, c2, c3, ⟨nx, n1, n2, n3, n4, n5⟩, c5, c6, c7, c8⟩ := h
  have al : ∀ s R, o ≤ s → AlE M L s R → AlE (xup (xup M o 9 0) o 10 0) L s R := fun s R q1 q => q.congr (fun k i h1 h2 => by rw [xup_k (by omega), xup_k (by omega)]) rfl
  refine ⟨?_, ?_, al _ _ (by omega) c2, al _ _ (by omega) c3, ⟨nx, n1, ?_, ?_, n4, fun i hi => al _ _ (by omega) (n5 i hi)⟩, ?_, ?_, fun q => absurd q Bool.false_ne_true, fun q => absurd q Bool.false_ne_true⟩
  · unfold iTx; rw [xup_k (by omega), xup_k (by omega)]; exact c0
  · intro i hi; rw [xup_k (by omega), xup_k (by omega)]; exact c1 i hi
  · rw [xup_i (by decide), xup_i (by decide)]; exact n2
  · rw [xup_i (by decide), xup_i (by decide)]; exact n3
  · rw [xup_i (by decide), xup_s]; rfl
  · rw [xup_s]; rfl
/-! what a number without error is -/
theorem nI_m9 {k : Nat} (h : k < 2 ^ 31) : nI k ≠ -9 := fun q => nI_pos h (by rw [q]; decide)
theorem kDig {v : Int32} (h : ¬ (v < 0 ∨ 9 < v)) : ∃ k, k ≤ 9 ∧ v = nI k := by
  rw [not_or] at h; exact xIdx (N := 9) (by decide) h.1 h.2
theorem kErrGo_e {lo hi fi : Int32} {r i : Nat} (h : kErrGo g a lo hi (r + 1) i fi = -9) (hai : a + i < 2 ^ 31) {sp : Int32} (hsp : sp = if r = 0 then 1 else 10) :
    ¬ (g (a + i) - 48 < 0 ∨ 9 < g (a + i) - 48) ∧ ¬ (hi < fi + (g (a + i) - 48) * sp ∨ fi + (g (a + i) - 48) * sp + sp - 1 < lo) ∧ kErrGo g a lo hi r (i + 1) (fi + (g (a + i) - 48) * sp) = -9 := by
  rw [kErrGo, ← hsp] at h
  by_cases c1 : g (a + i) - 48 < 0 ∨ 9 < g (a + i) - 48
  · rw [if_pos c1] at h; exact absurd h (nI_m9 hai)
  · rw [if_neg c1] at h
    by_cases c2 : hi < fi + (g (a + i) - 48) * sp ∨ fi + (g (a + i) - 48) * sp + sp - 1 < lo
    · rw [if_pos c2] at h; exact absurd h (nI_m9 hai)
    · rw [if_neg c2] at h; exact ⟨c1, c2, h⟩
theorem kErr2 {lo hi : Nat} (ha : a < 1000) (hlo : lo ≤ 100) (hhi : hi ≤ 100) (h : kErrN g a 2 (nI lo) (nI hi) = -9) : ∃ k, lo ≤ k ∧ k ≤ hi ∧ rNum g a = nI k := by
  obtain ⟨c1, -, h2⟩ := kErrGo_e (sp := 10) (r := 1) h (by omega) rfl
  obtain ⟨c2, c3, -⟩ := kErrGo_e (sp := 1) (r := 0) h2 (by omega) rfl
  obtain ⟨x, x1, ex⟩ := kDig c1
  obtain ⟨y, y1, ey⟩ := kDig c2
  have e1 : (0 : Int32) + (g (a + 0) - 48) * 10 + (g (a + (0 + 1)) - 48) * 1 = nI (x * 10 + y) := by
    rw [ex, ey, Int32.zero_add, Int32.mul_one, show nI x * 10 = nI (x * 10) from pk_mul x 10, nI_add]
  have e2 : rNum g a = nI (x * 10 + y) := by
    unfold rNum
    rw [show g a - 48 = nI x from ex, show g (a + 1) - 48 = nI y from ey, show nI x * 10 = nI (x * 10) from pk_mul x 10, nI_add]
  rw [e1, not_or] at c3
  refine ⟨x * 10 + y, ?_, ?_, e2⟩
  · refine Nat.not_lt.mp fun q => c3.2 ?_
    rw [nI_1, show nI (x * 10 + y + 1) - 1 = nI (x * 10 + y) from pkSub (b := 1) (by omega)]
    exact nI_lt q (by omega)
  · exact Nat.not_lt.mp fun q => c3.1 (nI_lt q (by omega))
theorem kErr1 (ha : a < 1000) (h : kErrN g a 1 1 9 = -9) : ∃ k, 1 ≤ k ∧ k ≤ 9 ∧ g a - 48 = nI k := by
  obtain ⟨c1, c3, -⟩ := kErrGo_e (sp := 1) (r := 0) h (by omega) rfl
  obtain ⟨x, x1, ex⟩ := kDig c1
  rw [not_or] at c3
  refine ⟨x, Nat.pos_of_ne_zero fun q => c3.2 ?_, x1, ex⟩
  rw [ex, q]; decide
theorem kErrD0 (ha : a < 900) (h : kErrD g a = -9) : (∃ k, k ≤ 99 ∧ rNum g a = nI k) ∧ ∃ k, 1 ≤ k ∧ k ≤ 60 ∧ rNum g (a + 2) = nI k := by
  unfold kErrD at h
  split at h
  next c =>
    obtain ⟨k, -, k2, k3⟩ := kErr2 (lo := 0) (hi := 99) (by omega) (by omega) (by omega) c
    exact ⟨⟨k, k2, k3⟩, kErr2 (lo := 1) (hi := 60) (by omega) (by omega) (by omega) h⟩
  next c => exact absurd h c
/-- what a part without error tells -/
theorem kErrP0 (ha : a < 800) (h : kErrP g a = -9) :
    (g a = 100 ∧ (∃ k, k ≤ 99 ∧ rNum g (a + 1) = nI k) ∧ ∃ k, 1 ≤ k ∧ k ≤ 60 ∧ rNum g (a + 3) = nI k) ∨ (g a = 103 ∧ ∃ k, 1 ≤ k ∧ k ≤ 9 ∧ g (a + 1) - 48 = nI k) ∨ (g a = 112 ∧ ∃ k, 1 ≤ k ∧ k ≤ 99 ∧ rNum g (a + 1) = nI k) ∨
    (g a = 116 ∧ ∃ k, 0 ≤ k ∧ k ≤ 40 ∧ rNum g (a + 1) = nI k) ∨ (g a = 119 ∧ ∃ k, 0 ≤ k ∧ k ≤ 20 ∧ rNum g (a + 1) = nI k) := by
  unfold kErrP at h
  split at h
  next c => exact Or.inl ⟨c, kErrD0 (by omega) h⟩
  split at h
  next c => exact Or.inr (Or.inl ⟨c, kErr1 (by omega) h⟩)
  split at h
  next c => exact Or.inr (Or.inr (Or.inl ⟨c, kErr2 (lo := 1) (hi := 99) (by omega) (by omega) (by omega) h⟩))
  split at h
  next c => exact Or.inr (Or.inr (Or.inr (Or.inl ⟨c, kErr2 (lo := 0) (hi := 40) (by omega) (by omega) (by omega) h⟩)))
  split at h
  next c => exact Or.inr (Or.inr (Or.inr (Or.inr ⟨c, kErr2 (lo := 0) (hi := 20) (by omega) (by omega) (by omega) h⟩)))
  exact absurd h (nI_m9 (by omega))
theorem kFiE_go {len d : Nat} (hd : kFiE g len (d + 1) a = -9) (ha : a < len) (hl : len ≤ 100) : kErrP g a = -9 ∧ kFiE g len d (a + kPaL g a) = -9 := by
  unfold kFiE at hd
  rw [if_pos ha] at hd
  split at hd
  next c => exact ⟨c, hd⟩
  next c => exact absurd hd c
end P39
section C39
variable {E : xEnv} {l : Launch} {x : Bool} {n : Nat} {K : xKnd} {G : xRef} {M : xMem} {L : xLng} {o T B : Nat} {S : xSp}
theorem c_X5_save (hl9 : l.stackTraces = false) (h : rX n K G o) (hc : CRel M L o S) (hw : WFS S T B) (w : Int32) : Con E l Y_X5_save [.ref o, .int w] (x, n, K, G, M, L)
    (xG (kdO w 0 1) (some (.int (S.2.2.1 0))) (sKeep S w.toNatClampNeg) o x n K G M L) (xC (kdO w 0 1) nsI (x, n, K, G, M, L)) := by
  obtain ⟨h0, -, -, g1, h1, -, -, -, -, -, -, -, g7, h7, g8, h8⟩ := h
  have ip := hc.ipl hw
  have h10 := h1.1
  have gp := h1.2.1
  have hp0 := h1.2.2.1.1
  have h70 := h7.1
  have h80 := h8.1
  have tk : M (o + 3 + 1) 0 = S.2.2.1 0 := by
    obtain ⟨w, lf, v, lr, q⟩ := hc.2.2.1
    exact q.1.1
  refine Con.mk 0 mp_X5_save rfl (ls := [some (.ref o), some (.int w)]) rfl (Nat.le_of_ble_eq_true rfl) ?_
  by_cases c : w < 0 ∨ 1 < w
  · refine V_ild1 dX5_save_0 ?_
    refine V_iconst (v := 0) dX5_save_1 (by decide) ?_
    refine V_iconst (v := 1) dX5_save_2 (by decide) ?_
    refine V_cs3R lk_X5_53 cc_X5_isOutside dX5_save_3 (c_X5_isOutside _ _ _) ft_X5_save_X5_isOutside rfl rfl (Nat.le_of_ble_eq_true rfl) ?_
    refine V_if_eq (tgt := 20) dX5_save_6 (by decide) (fun h6 => ?_) (fun h6 => ?_)
    · exact absurd (bIt c) (by rw [h6]; decide)
    · exact V_throwW th_X5_313 hl9 rfl dX5_save_9 dX5_save_12 dX5_save_13 dX5_save_16 dX5_save_19 (by decide) (by decide) (by decide) (by decide) (xC_mk 0 (by unfold kdO; rw [if_pos c]) rfl)
  · have c' := c
    rw [not_or] at c'
    obtain ⟨k, hk, rfl⟩ := xIdx (N := 1) (by decide) c'.1 c'.2
    have ek : (nI k).toNatClampNeg = k := nI_clamp (by omega)
    have hk2 : k = 0 ∨ k = 1 := by omega
    rw [ek]
    rcases hk2 with rfl | rfl
    · refine V_ild1 dX5_save_0 ?_
      refine V_iconst (v := 0) dX5_save_1 (by decide) ?_
      refine V_iconst (v := 1) dX5_save_2 (by decide) ?_
      refine V_cs3R lk_X5_53 cc_X5_isOutside dX5_save_3 (c_X5_isOutside _ _ _) ft_X5_save_X5_isOutside rfl rfl (Nat.le_of_ble_eq_true rfl) ?_
      refine V_if_eq (tgt := 20) dX5_save_6 (by decide) (fun h6 => ?_) (fun h6 => ?_)
      · refine V_ild1 dX5_save_20 ?_
        refine V_if_ne (tgt := 43) dX5_save_21 (by decide) (fun h21 => ?_) (fun h21 => ?_)
        · exact absurd rfl h21
        · refine V_ald0 dX5_save_24 ?_
          refine V_getR fd_X5_40 dX5_save_25 (by assumption) (by assumption) rfl ?_
          refine V_ald0 dX5_save_28 ?_
          refine V_getR fd_X5_19 dX5_save_29 (by assumption) (by assumption) rfl ?_
          refine V_cv1U lk_X5_86 cc_X3_copyFrom dX5_save_32 h70 (c_X3_copyFrom h1 h7 (by omega) ip) ft_X5_save_X3_copyFrom rfl rfl (Nat.le_of_ble_eq_true rfl) ?_
          refine V_ald0 dX5_save_35 ?_
          refine V_iconst (v := 1) dX5_save_36 (by decide) ?_
          refine V_putZ fw_X5_46 dX5_save_37 (by assumption) (Or.inr rfl) rfl ?_
          refine V_goto (tgt := 59) dX5_save_40 (by decide) ?_
          refine V_ald0 dX5_save_59 ?_
          refine V_getR fd_X5_19 dX5_save_60 (by assumption) (by assumption) rfl ?_
          refine V_getR fd_X5_109 dX5_save_63 (by assumption) (by assumption) rfl ?_
          refine V_getI fd_X5_113 dX5_save_66 (by assumption) rfl ?_
          exact V_iret rfl dX5_save_69 (by decide) (by decide) ⟨by unfold kdO; rw [if_neg c], by rw [xup_k (by omega), kStCp_k (by omega), tk], _, _, rfl, hc.keep (j := 0) (by decide), fun k hk => ⟨fun i => by rw [xup_k (by omega), kStCp_k (by omega)], fun i => kAcCpL_k (by omega)⟩⟩
      · exact absurd (bIf c) h6
    · refine V_ild1 dX5_save_0 ?_
      refine V_iconst (v := 0) dX5_save_1 (by decide) ?_
      refine V_iconst (v := 1) dX5_save_2 (by decide) ?_
      refine V_cs3R lk_X5_53 cc_X5_isOutside dX5_save_3 (c_X5_isOutside _ _ _) ft_X5_save_X5_isOutside rfl rfl (Nat.le_of_ble_eq_true rfl) ?_
      refine V_if_eq (tgt := 20) dX5_save_6 (by decide) (fun h6 => ?_) (fun h6 => ?_)
      · refine V_ild1 dX5_save_20 ?_
        refine V_if_ne (tgt := 43) dX5_save_21 (by decide) (fun h21 => ?_) (fun h21 => ?_)
        · refine V_ald0 dX5_save_43 ?_
          refine V_getR fd_X5_43 dX5_save_44 (by assumption) (by assumption) rfl ?_
          refine V_ald0 dX5_save_47 ?_
          refine V_getR fd_X5_19 dX5_save_48 (by assumption) (by assumption) rfl ?_
          refine V_cv1U lk_X5_86 cc_X3_copyFrom dX5_save_51 h80 (c_X3_copyFrom h1 h8 (by omega) ip) ft_X5_save_X3_copyFrom rfl rfl (Nat.le_of_ble_eq_true rfl) ?_
          refine V_ald0 dX5_save_54 ?_
          refine V_iconst (v := 1) dX5_save_55 (by decide) ?_
          refine V_putZ fw_X5_50 dX5_save_56 (by assumption) (Or.inr rfl) rfl ?_
          refine V_ald0 dX5_save_59 ?_
          refine V_getR fd_X5_19 dX5_save_60 (by assumption) (by assumption) rfl ?_
          refine V_getR fd_X5_109 dX5_save_63 (by assumption) (by assumption) rfl ?_
          refine V_getI fd_X5_113 dX5_save_66 (by assumption) rfl ?_
          exact V_iret rfl dX5_save_69 (by decide) (by decide) ⟨by unfold kdO; rw [if_neg c], by rw [xup_k (by omega), kStCp_k (by omega), tk], _, _, rfl, hc.keep (j := 1) (by decide), fun k hk => ⟨fun i => by rw [xup_k (by omega), kStCp_k (by omega)], fun i => kAcCpL_k (by omega)⟩⟩
        · exact absurd h21 (by decide)
      · exact absurd (bIf c) h6
def kdRes (S : xSp) (w : Int32) : Nat := if w < 0 ∨ 1 < w then 1 else if S.2.2.2.2.2.1 w.toNatClampNeg = true then 0 else 2
theorem c_X5_restore (hl9 : l.stackTraces = false) (h : rX n K G o) (hc : CRel M L o S) (hw : WFS S T B) (w : Int32) : Con E l Y_X5_restore [.ref o, .int w] (x, n, K, G, M, L)
    (xG (kdRes S w) (some (.int (S.2.2.2.2.2.2 w.toNatClampNeg 0))) (sBack S w.toNatClampNeg) o x n K G M L) (xC (kdRes S w) nsIS (x, n, K, G, M, L)) := by
  obtain ⟨h0, -, -, g1, h1, -, -, -, -, -, -, -, g7, h7, g8, h8⟩ := h
  have h10 := h1.1
  have gp := h1.2.1
  have hp0 := h1.2.2.1.1
  have key : ∀ j, j < 2 → S.2.2.2.2.2.1 j = true → iPl M (o + 49 + 15 * j + 1) ∧ CRel (xup (kStCp M (o + 49 + 15 * j) (o + 3)) o 6 0) (kAcCpL L (o + 49 + 15 * j + 7) (o + 3 + 7)) o (sBack S j) := by
    intro j hj hf
    have hA := hc.slot hj hf
    refine ⟨?_, hc.back (by omega) hA⟩
    obtain ⟨w, lf, v, lr, q⟩ := hA
    have : j = 0 ∨ j = 1 := by omega
    rcases this with rfl | rfl
    · exact q.ipl (hw.2.2.1 hf)
    · exact q.ipl (hw.2.2.2 hf)
  have tk : ∀ j, CRel (xup (kStCp M (o + 49 + 15 * j) (o + 3)) o 6 0) (kAcCpL L (o + 49 + 15 * j + 7) (o + 3 + 7)) o (sBack S j) → xup (kStCp M (o + 49 + 15 * j) (o + 3)) o 6 0 (o + 3 + 1) 0 = S.2.2.2.2.2.2 j 0 := by
    intro j q
    obtain ⟨w, lf, v, lr, q⟩ := q.2.2.1
    exact q.1.1
  refine Con.mk 1 mp_X5_restore rfl (ls := [some (.ref o), some (.int w), none]) rfl (Nat.le_of_ble_eq_true rfl) ?_
  by_cases c : w < 0 ∨ 1 < w
  · refine V_ild1 dX5_restore_0 ?_
    refine V_iconst (v := 0) dX5_restore_1 (by decide) ?_
    refine V_iconst (v := 1) dX5_restore_2 (by decide) ?_
    refine V_cs3R lk_X5_53 cc_X5_isOutside dX5_restore_3 (c_X5_isOutside _ _ _) ft_X5_restore_X5_isOutside rfl rfl (Nat.le_of_ble_eq_true rfl) ?_
    refine V_if_eq (tgt := 20) dX5_restore_6 (by decide) (fun h6 => ?_) (fun h6 => ?_)
    · exact absurd (bIt c) (by rw [h6]; decide)
    · exact V_throwW th_X5_313 hl9 rfl dX5_restore_9 dX5_restore_12 dX5_restore_13 dX5_restore_16 dX5_restore_19 (by decide) (by decide) (by decide) (by decide) (xC_mk 0 (by unfold kdRes; rw [if_pos c]) rfl)
  · have c' := c
    rw [not_or] at c'
    obtain ⟨k, hk, rfl⟩ := xIdx (N := 1) (by decide) c'.1 c'.2
    have ek : (nI k).toNatClampNeg = k := nI_clamp (by omega)
    have hk2 : k = 0 ∨ k = 1 := by omega
    rw [ek]
    have kd1 : S.2.2.2.2.2.1 k = true → kdRes S (nI k) = 0 := fun q => by unfold kdRes; rw [if_neg c, ek, if_pos q]
    have kd2 : ¬ S.2.2.2.2.2.1 k = true → kdRes S (nI k) = 2 := fun q => by unfold kdRes; rw [if_neg c, ek, if_neg q]
    rcases hk2 with rfl | rfl
    · have e9 : M o 9 = bB (S.2.2.2.2.2.1 0) := hc.2.2.2.2.2.1
      by_cases hf : S.2.2.2.2.2.1 0 = true
      · obtain ⟨ip, hr⟩ := key 0 (by decide) hf
        refine V_ild1 dX5_restore_0 ?_
        refine V_iconst (v := 0) dX5_restore_1 (by decide) ?_
        refine V_iconst (v := 1) dX5_restore_2 (by decide) ?_
        refine V_cs3R lk_X5_53 cc_X5_isOutside dX5_restore_3 (c_X5_isOutside _ _ _) ft_X5_restore_X5_isOutside rfl rfl (Nat.le_of_ble_eq_true rfl) ?_
        refine V_if_eq (tgt := 20) dX5_restore_6 (by decide) (fun h6 => ?_) (fun h6 => ?_)
        · refine V_ild1 dX5_restore_20 ?_
          refine V_if_ne (tgt := 31) dX5_restore_21 (by decide) (fun h21 => ?_) (fun h21 => ?_)
          · exact absurd rfl h21
          · refine V_ald0 dX5_restore_24 ?_
            refine V_getI fd_X5_46 dX5_restore_25 (by assumption) rfl ?_
            refine V_goto (tgt := 35) dX5_restore_28 (by decide) ?_
            refine V_ist2 dX5_restore_35 rfl (by decide) ?_
            refine V_ild2 dX5_restore_36 ?_
            refine V_if_ne (tgt := 51) dX5_restore_37 (by decide) (fun h37 => ?_) (fun h37 => ?_)
            · refine V_ald0 dX5_restore_51 ?_
              refine V_getR fd_X5_19 dX5_restore_52 (by assumption) (by assumption) rfl ?_
              refine V_ild1 dX5_restore_55 ?_
              refine V_if_ne (tgt := 66) dX5_restore_56 (by decide) (fun h56 => ?_) (fun h56 => ?_)
              · exact absurd rfl h56
              · refine V_ald0 dX5_restore_59 ?_
                refine V_getR fd_X5_40 dX5_restore_60 (by assumption) (by assumption) rfl ?_
                refine V_goto (tgt := 70) dX5_restore_63 (by decide) ?_
                refine V_cv1U lk_X5_86 cc_X3_copyFrom dX5_restore_70 (by assumption) (c_X3_copyFrom h7 h1 (by omega) ip) ft_X5_restore_X3_copyFrom rfl rfl (Nat.le_of_ble_eq_true rfl) ?_
                refine V_ald0 dX5_restore_73 ?_
                refine V_iconst (v := 0) dX5_restore_74 (by decide) ?_
                refine V_putI fw_X5_37 dX5_restore_75 (by assumption) rfl ?_
                refine V_ald0 dX5_restore_78 ?_
                refine V_getR fd_X5_19 dX5_restore_79 (by assumption) (by assumption) rfl ?_
                refine V_getR fd_X5_109 dX5_restore_82 (by assumption) (by assumption) rfl ?_
                refine V_getI fd_X5_113 dX5_restore_85 (by assumption) rfl ?_
                exact V_iret rfl dX5_restore_88 (by decide) (by decide) ⟨kd1 hf, by rw [← tk 0 hr], _, _, rfl, hr, fun k hk => ⟨fun i => by rw [xup_k (by omega), kStCp_k (by omega)], fun i => kAcCpL_k (by omega)⟩⟩
            · exact absurd (h37.symm.trans e9) (by rw [hf]; decide)
        · exact absurd (bIf c) h6
      · refine V_ild1 dX5_restore_0 ?_
        refine V_iconst (v := 0) dX5_restore_1 (by decide) ?_
        refine V_iconst (v := 1) dX5_restore_2 (by decide) ?_
        refine V_cs3R lk_X5_53 cc_X5_isOutside dX5_restore_3 (c_X5_isOutside _ _ _) ft_X5_restore_X5_isOutside rfl rfl (Nat.le_of_ble_eq_true rfl) ?_
        refine V_if_eq (tgt := 20) dX5_restore_6 (by decide) (fun h6 => ?_) (fun h6 => ?_)
        · refine V_ild1 dX5_restore_20 ?_
          refine V_if_ne (tgt := 31) dX5_restore_21 (by decide) (fun h21 => ?_) (fun h21 => ?_)
          · exact absurd rfl h21
          · refine V_ald0 dX5_restore_24 ?_
            refine V_getI fd_X5_46 dX5_restore_25 (by assumption) rfl ?_
            refine V_goto (tgt := 35) dX5_restore_28 (by decide) ?_
            refine V_ist2 dX5_restore_35 rfl (by decide) ?_
            refine V_ild2 dX5_restore_36 ?_
            refine V_if_ne (tgt := 51) dX5_restore_37 (by decide) (fun h37 => ?_) (fun h37 => ?_)
            · exact absurd (e9.trans (by unfold bB; rw [if_neg hf])) h37
            · exact V_throwW th_X5_315 hl9 rfl dX5_restore_40 dX5_restore_43 dX5_restore_44 dX5_restore_47 dX5_restore_50 (by decide) (by decide) (by decide) (by decide) (xC_mk 1 (kd2 hf) rfl)
        · exact absurd (bIf c) h6
    · have e9 : M o 10 = bB (S.2.2.2.2.2.1 1) := hc.2.2.2.2.2.2.1
      by_cases hf : S.2.2.2.2.2.1 1 = true
      · obtain ⟨ip, hr⟩ := key 1 (by decide) hf
        refine V_ild1 dX5_restore_0 ?_
        refine V_iconst (v := 0) dX5_restore_1 (by decide) ?_
        refine V_iconst (v := 1) dX5_restore_2 (by decide) ?_
        refine V_cs3R lk_X5_53 cc_X5_isOutside dX5_restore_3 (c_X5_isOutside _ _ _) ft_X5_restore_X5_isOutside rfl rfl (Nat.le_of_ble_eq_true rfl) ?_
        refine V_if_eq (tgt := 20) dX5_restore_6 (by decide) (fun h6 => ?_) (fun h6 => ?_)
        · refine V_ild1 dX5_restore_20 ?_
          refine V_if_ne (tgt := 31) dX5_restore_21 (by decide) (fun h21 => ?_) (fun h21 => ?_)
          · refine V_ald0 dX5_restore_31 ?_
            refine V_getI fd_X5_50 dX5_restore_32 (by assumption) rfl ?_
            refine V_ist2 dX5_restore_35 rfl (by decide) ?_
            refine V_ild2 dX5_restore_36 ?_
            refine V_if_ne (tgt := 51) dX5_restore_37 (by decide) (fun h37 => ?_) (fun h37 => ?_)
            · refine V_ald0 dX5_restore_51 ?_
              refine V_getR fd_X5_19 dX5_restore_52 (by assumption) (by assumption) rfl ?_
              refine V_ild1 dX5_restore_55 ?_
              refine V_if_ne (tgt := 66) dX5_restore_56 (by decide) (fun h56 => ?_) (fun h56 => ?_)
              · refine V_ald0 dX5_restore_66 ?_
                refine V_getR fd_X5_43 dX5_restore_67 (by assumption) (by assumption) rfl ?_
                refine V_cv1U lk_X5_86 cc_X3_copyFrom dX5_restore_70 (by assumption) (c_X3_copyFrom h8 h1 (by omega) ip) ft_X5_restore_X3_copyFrom rfl rfl (Nat.le_of_ble_eq_true rfl) ?_
                refine V_ald0 dX5_restore_73 ?_
                refine V_iconst (v := 0) dX5_restore_74 (by decide) ?_
                refine V_putI fw_X5_37 dX5_restore_75 (by assumption) rfl ?_
                refine V_ald0 dX5_restore_78 ?_
                refine V_getR fd_X5_19 dX5_restore_79 (by assumption) (by assumption) rfl ?_
                refine V_getR fd_X5_109 dX5_restore_82 (by assumption) (by assumption) rfl ?_
                refine V_getI fd_X5_113 dX5_restore_85 (by assumption) rfl ?_
                exact V_iret rfl dX5_restore_88 (by decide) (by decide) ⟨kd1 hf, by rw [← tk 1 hr], _, _, rfl, hr, fun k hk => ⟨fun i => by rw [xup_k (by omega), kStCp_k (by omega)], fun i => kAcCpL_k (by omega)⟩⟩
              · exact absurd h56 (by decide)
            · exact absurd (h37.symm.trans e9) (by rw [hf]; decide)
          · exact absurd h21 (by decide)
        · exact absurd (bIf c) h6
      · refine V_ild1 dX5_restore_0 ?_
        refine V_iconst (v := 0) dX5_restore_1 (by decide) ?_
        refine V_iconst (v := 1) dX5_restore_2 (by decide) ?_
        refine V_cs3R lk_X5_53 cc_X5_isOutside dX5_restore_3 (c_X5_isOutside _ _ _) ft_X5_restore_X5_isOutside rfl rfl (Nat.le_of_ble_eq_true rfl) ?_
        refine V_if_eq (tgt := 20) dX5_restore_6 (by decide) (fun h6 => ?_) (fun h6 => ?_)
        · refine V_ild1 dX5_restore_20 ?_
          refine V_if_ne (tgt := 31) dX5_restore_21 (by decide) (fun h21 => ?_) (fun h21 => ?_)
          · refine V_ald0 dX5_restore_31 ?_
            refine V_getI fd_X5_50 dX5_restore_32 (by assumption) rfl ?_
            refine V_ist2 dX5_restore_35 rfl (by decide) ?_
            refine V_ild2 dX5_restore_36 ?_
            refine V_if_ne (tgt := 51) dX5_restore_37 (by decide) (fun h37 => ?_) (fun h37 => ?_)
            · exact absurd (e9.trans (by unfold bB; rw [if_neg hf])) h37
            · exact V_throwW th_X5_315 hl9 rfl dX5_restore_40 dX5_restore_43 dX5_restore_44 dX5_restore_47 dX5_restore_50 (by decide) (by decide) (by decide) (by decide) (xC_mk 1 (kd2 hf) rfl)
          · exact absurd h21 (by decide)
        · exact absurd (bIf c) h6
end C39

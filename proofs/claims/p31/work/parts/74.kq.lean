/-! ===== what every row keeps: the bins, the open pulse ===== -/
def nS (f : Nat → Nat) : Nat → Nat
  | 0 => 0
  | n + 1 => nS f n + f n
/-- how many of the first ones are v -/
def nC (g : Nat → Int32) (v : Int32) : Nat → Nat
  | 0 => 0
  | n + 1 => nC g v n + if g n = v then 1 else 0
theorem nS_congr {f g : Nat → Nat} : ∀ n, (∀ i, i < n → f i = g i) → nS f n = nS g n
  | 0, _ => rfl
  | n + 1, h => by unfold nS; rw [nS_congr n (fun i hi => h i (by omega)), h n (by omega)]
theorem nS_one {f g : Nat → Nat} {k a : Nat} (h1 : ∀ i, i ≠ k → g i = f i) (h2 : g k = f k + a) : ∀ n, k < n → nS g n = nS f n + a
  | 0, h => absurd h (Nat.not_lt_zero _)
  | n + 1, h => by
    unfold nS
    by_cases e : k = n
    · subst e
      rw [nS_congr k (fun i hi => h1 i (by omega)), h2]; omega
    · rw [nS_one h1 h2 n (by omega), h1 n (by omega)]; omega
theorem nS_ge {f : Nat → Nat} {k : Nat} : ∀ n, k < n → f k ≤ nS f n
  | 0, h => absurd h (Nat.not_lt_zero _)
  | n + 1, h => by
    unfold nS
    by_cases e : k = n
    · subst e; omega
    · have := nS_ge (f := f) n (show k < n by omega); omega
theorem nS_mono {f g : Nat → Nat} : ∀ n, (∀ i, i < n → f i ≤ g i) → nS f n ≤ nS g n
  | 0, _ => Nat.le_refl _
  | n + 1, h => by
    unfold nS
    have := nS_mono n (fun i hi => h i (by omega))
    have := h n (by omega)
    omega
theorem nC_congr {f g : Nat → Int32} {v : Int32} : ∀ n, (∀ i, i < n → f i = g i) → nC f v n = nC g v n
  | 0, _ => rfl
  | n + 1, h => by unfold nC; rw [nC_congr n (fun i hi => h i (by omega)), h n (by omega)]
theorem nC_shift {f : Nat → Int32} {v : Int32} : ∀ n, nC f v (n + 1) = (if f 0 = v then 1 else 0) + nC (fun j => f (j + 1)) v n
  | 0 => by simp [nC]
  | n + 1 => by
    rw [nC, nC_shift n]
    simp only [nC]
    omega
theorem nC_le {f : Nat → Int32} {v : Int32} : ∀ n, nC f v n ≤ n
  | 0 => Nat.le_refl _
  | n + 1 => by unfold nC; have := nC_le (f := f) (v := v) n; split <;> omega
theorem nC_mono {f : Nat → Int32} {v : Int32} {m : Nat} : ∀ n, m ≤ n → nC f v m ≤ nC f v n
  | 0, h => by rw [Nat.le_zero.mp h]; exact Nat.le_refl _
  | n + 1, h => by
    by_cases e : m = n + 1
    · rw [e]; exact Nat.le_refl _
    · rw [show nC f v (n + 1) = nC f v n + _ from rfl]; have := nC_mono (f := f) (v := v) n (show m ≤ n by omega); omega
/-- each of the first ones is one of four -/
theorem nC_four {f : Nat → Int32} : ∀ n, (∀ j, j < n → ∃ g, g < 4 ∧ f j = nI g) → nC f (nI 0) n + nC f (nI 1) n + nC f (nI 2) n + nC f (nI 3) n = n
  | 0, _ => rfl
  | n + 1, h => by
    have ih := nC_four n (fun j hj => h j (by omega))
    obtain ⟨g, hg, e⟩ := h n (by omega)
    simp only [nC, e]
    have z : g = 0 ∨ g = 1 ∨ g = 2 ∨ g = 3 := by omega
    have d : ∀ a b : Nat, a < 4 → b < 4 → ((nI a = nI b) ↔ a = b) := fun a b ha hb => nI_eq (by omega) (by omega)
    simp only [d g 0 hg (by decide), d g 1 hg (by decide), d g 2 hg (by decide), d g 3 hg (by decide)]
    rcases z with rfl | rfl | rfl | rfl <;> simp <;> omega
/-- the bins hold at most x pulses of at most y drops, the open one among them -/
def KQ (R : xRow) (x y : Nat) : Prop := ∃ (p f m : Nat → Nat) (d : Nat),
  (∀ k, k < 8 → R (23 + 3 * k) = nI (p k) ∧ R (24 + 3 * k) = nI (f k) ∧ R (25 + 3 * k) = nI (m k) ∧ f k ≤ p k ∧ p k ≤ m k) ∧
  ((R 13 = 0 ∧ nS p 8 ≤ x ∧ nS m 8 ≤ y) ∨ (R 13 = 1 ∧ R 10 = 1 ∧ R 14 = nI d ∧ 1 ≤ d ∧ nb (R 12) 1 5000 ∧ nS p 8 + 1 ≤ x ∧ nS m 8 + d ≤ y))
def KB (R : xRow) : Prop := ∃ b : Nat → Nat, (∀ k, k < 7 → R (16 + k) = nI (b k) ∧ 1 ≤ b k ∧ b k ≤ 5000) ∧ ∀ k, k < 6 → b k < b (k + 1)
section P50
variable {R R' : xRow} {x y T B : Nat}
theorem KQ.congr (h : KQ R x y) (e : ∀ i, (10 ≤ i ∧ i < 15) ∨ (23 ≤ i ∧ i < 47) → R' i = R i) : KQ R' x y := by
  obtain ⟨p, f, m, d, h1, h2⟩ := h
  refine ⟨p, f, m, d, fun k hk => ?_, ?_⟩
  · rw [e _ (by omega), e _ (by omega), e _ (by omega)]; exact h1 k hk
  · rw [e 13 (by omega), e 10 (by omega), e 14 (by omega), e 12 (by omega)]; exact h2
theorem KB.congr (h : KB R) (e : ∀ i, 16 ≤ i ∧ i < 23 → R' i = R i) : KB R' := by
  obtain ⟨b, h1, h2⟩ := h
  exact ⟨b, fun k hk => by rw [e _ (by omega)]; exact h1 k hk, h2⟩
theorem KQ.mono (h : KQ R x y) {x' y' : Nat} (hx : x ≤ x') (hy : y ≤ y') : KQ R x' y' := by
  obtain ⟨p, f, m, d, h1, h2⟩ := h
  refine ⟨p, f, m, d, h1, ?_⟩
  rcases h2 with ⟨a1, a2, a3⟩ | ⟨a1, a2, a3, a4, a5, a6, a7⟩
  · exact Or.inl ⟨a1, by omega, by omega⟩
  · exact Or.inr ⟨a1, a2, a3, a4, a5, by omega, by omega⟩
theorem KQ.close (h : KQ R x y) (ho : R 13 = 1) (hs : R 15 = 0 ∨ R 15 = 1) : KQ (rClose R) x y := by
  obtain ⟨p, f, m, d, h1, h2⟩ := h
  rcases h2 with ⟨a1, -⟩ | ⟨a1, a2, a3, a4, a5, a6, a7⟩
  · rw [ho] at a1; exact absurd a1 (by decide)
  obtain ⟨q, q1, hq⟩ : ∃ q, q ≤ 1 ∧ R 15 = nI q := by
    rcases hs with z | z
    · exact ⟨0, by omega, z⟩
    · exact ⟨1, by omega, z⟩
  unfold rClose
  have hle := rBin_le (R := R) (h := R 12) 7
  generalize rBin R (R 12) 7 = j at hle
  dsimp only
  have hj := h1 j (by omega)
  have r1 : ∀ w : Int32, upR R (23 + 3 * j) w (24 + 3 * j) = R (24 + 3 * j) := fun w => upR_n (by omega)
  have r2 : ∀ w : Int32, upR R (23 + 3 * j) w 15 = R 15 := fun w => upR_n (by omega)
  have r3 : ∀ v w : Int32, upR (upR R (23 + 3 * j) v) (24 + 3 * j) w (25 + 3 * j) = R (25 + 3 * j) := fun v w => by rw [upR_n (by omega), upR_n (by omega)]
  have r4 : ∀ v w : Int32, upR (upR R (23 + 3 * j) v) (24 + 3 * j) w 14 = R 14 := fun v w => by rw [upR_n (by omega), upR_n (by omega)]
  rw [r1, r2, r3, r4, hj.1, hj.2.1, hj.2.2.1, hq, a3, nI_1, nI_add, nI_add]
  refine ⟨fun i => if i = j then p i + 1 else p i, fun i => if i = j then f i + q else f i, fun i => if i = j then m i + d else m i, d, fun k hk => ?_, Or.inl ⟨upR_s, ?_, ?_⟩⟩
  · by_cases e : k = j
    · subst e
      rw [upR_n (by omega), upR_n (by omega), upR_n (by omega), upR_s, upR_n (by omega), upR_n (by omega), upR_s, upR_n (by omega), upR_s]
      simp only [if_true]
      exact ⟨trivial, trivial, trivial, by omega, by omega⟩
    · rw [upR_n (by omega), upR_n (by omega), upR_n (by omega), upR_n (by omega), upR_n (by omega), upR_n (by omega), upR_n (by omega), upR_n (by omega), upR_n (by omega), upR_n (by omega), upR_n (by omega), upR_n (by omega)]
      simp only [e, if_false]
      exact h1 k hk
  · rw [nS_one (f := p) (k := j) (a := 1) (fun i hi => by simp [hi]) (by simp) 8 (by omega)]; omega
  · rw [nS_one (f := m) (k := j) (a := d) (fun i hi => by simp [hi]) (by simp) 8 (by omega)]; omega
theorem KB.close (h : KB R) : KB (rClose R) := h.congr fun i hi => rClose_o (by omega)
theorem KQ.tick (h : KQ R x y) {v : Int32} : KQ (upR R 0 v) x y := h.congr fun i hi => upR_n (by omega)
theorem KQ.go (h : KQ R x y) (hs : R 15 = 0 ∨ R 15 = 1) {t : Int32} : KQ (rGo R t) x y := by
  unfold rGo
  split
  next c => exact h.tick.close c.2.1 (by rw [upR_n (by decide)]; exact hs)
  next => exact h.tick
theorem KB.go (h : KB R) {t : Int32} : KB (rGo R t) := h.congr fun i hi => rGo_o (by omega)
theorem KQ.much (h : KQ R x y) (hw : WFr R T B) {w : Int32} (h12 : R 13 = 1 → nb w 1 10000) : KQ (rMuch R w) x y := by
  obtain ⟨p, f, m, d, h1, h2⟩ := h
  have o : ∀ i, i ≠ 12 ∧ i ≠ 15 → rMuch R w i = R i := fun i hi => rMuch_o hi
  refine ⟨p, f, m, d, fun k hk => ?_, ?_⟩
  · rw [o _ (by omega), o _ (by omega), o _ (by omega)]; exact h1 k hk
  · rw [o 13 (by decide), o 10 (by decide), o 14 (by decide)]
    rcases h2 with ⟨a1, a2, a3⟩ | ⟨a1, a2, a3, a4, a5, a6, a7⟩
    · exact Or.inl ⟨a1, a2, a3⟩
    · refine Or.inr ⟨a1, a2, a3, a4, ?_, a6, a7⟩
      obtain ⟨k, k1, k2, rfl⟩ := h12 a1
      obtain ⟨s, s1, s2, hs⟩ := hw.2.2.2.2.1
      unfold rMuch
      split
      · rw [upR_s, hs]; exact nb.i (by omega) s2
      next c =>
        rw [upR_s]
        rw [hs] at c
        have := (not_congr (nI_ltI (a := s) (b := k) (by omega) (by omega))).mp c
        exact nb.i k1 (by omega)
theorem KQ.opn (h : KQ R x y) (hw : WFr R T B) (h13 : R 13 = 0) {w : Int32} (h12 : nb w 1 10000) : KQ (rOpn R w) (x + 1) (y + 1) := by
  obtain ⟨p, f, m, d, h1, h2⟩ := h
  rcases h2 with ⟨a1, a2, a3⟩ | ⟨a1, -⟩
  · have e : ∀ i, ¬ (10 ≤ i ∧ i < 16) → rOpn R w i = R i := fun i hi => rOpn_o (by omega)
    unfold rOpn at e ⊢
    generalize hR1 : upR (upR (upR (upR (upR R 13 1) 14 1) 15 0) 10 1) 11 (R 0) = R1 at e ⊢
    have o : ∀ i, i ≠ 12 ∧ i ≠ 15 → rMuch R1 w i = R1 i := fun i hi => rMuch_o hi
    refine ⟨p, f, m, 1, fun k hk => ?_, Or.inr ⟨?_, ?_, ?_, Nat.le_refl _, ?_, by omega, by omega⟩⟩
    · rw [e _ (by omega), e _ (by omega), e _ (by omega)]; exact h1 k hk
    · rw [o _ (by decide), ← hR1, upR_n (by decide), upR_n (by decide), upR_n (by decide), upR_n (by decide), upR_s]
    · rw [o _ (by decide), ← hR1, upR_n (by decide), upR_s]
    · rw [o _ (by decide), ← hR1, upR_n (by decide), upR_n (by decide), upR_n (by decide), upR_s]; rfl
    · have e5 : R1 5 = R 5 := by rw [← hR1, upR_n (by decide), upR_n (by decide), upR_n (by decide), upR_n (by decide), upR_n (by decide)]
      obtain ⟨k, k1, k2, rfl⟩ := h12
      obtain ⟨s, s1, s2, hs⟩ := hw.2.2.2.2.1
      unfold rMuch
      split
      · rw [upR_s, e5, hs]; exact nb.i (by omega) s2
      next c =>
        rw [upR_s]
        rw [e5, hs] at c
        have := (not_congr (nI_ltI (a := s) (b := k) (by omega) (by omega))).mp c
        exact nb.i k1 (by omega)
  · rw [h13] at a1; exact absurd a1 (by decide)
/-- a fall: one pulse more if counted, one drop more if counted or merged -/
theorem KQ.fl (h : KQ R x y) (hw : WFr R T B) {z : Nat} (hz : z ≤ 60) : KQ (rFl R (nI z)) (x + if rFt R (nI z) = 0 then 1 else 0) (y + if rFt R (nI z) ≤ 1 then 1 else 0) := by
  obtain ⟨a, -, a2, ha⟩ := hw.2.2.2.2.2.2.2.2.1
  obtain ⟨b, -, b2, hb⟩ := hw.str hz
  obtain ⟨c, -, c2, hc⟩ := hw.lev
  obtain ⟨n0, n1, n2, hn⟩ := hw.2.2.2.1
  have hs := hw.2.2.2.2.2.2.2.1
  by_cases mg : R 13 = 1 ∧ R 0 - R 11 < R 2
  · have ft : rFt R (nI z) = 1 := by unfold rFt; rw [if_pos mg]
    rw [ft]
    simp only [Nat.reduceLeDiff, if_true, show ¬ (1 = 0) by decide, if_false, Nat.add_zero]
    unfold rFl
    rw [if_pos mg]
    have h12 : R 13 = 1 → nb (R 12 + rStr R (nI z)) 1 10000 := fun _ => by
      obtain ⟨p, f, m, d, -, h2⟩ := h
      rcases h2 with ⟨q, -⟩ | ⟨-, -, -, -, ⟨k, k1, k2, hk⟩, -⟩
      · rw [mg.1] at q; exact absurd q (by decide)
      · rw [hk, hb, nI_add]; exact nb.i (by omega) (by omega)
    have hm := h.much hw h12
    obtain ⟨p, f, m, d, h1, h2⟩ := hm
    rcases h2 with ⟨q, -⟩ | ⟨q1, q2, q3, q4, q5, q6, q7⟩
    · rw [rMuch_o (by decide), mg.1] at q; exact absurd q (by decide)
    · refine ⟨p, f, m, d + 1, fun k hk => ?_, Or.inr ⟨?_, ?_, ?_, by omega, ?_, q6, by omega⟩⟩
      · rw [upR_n (by omega), upR_n (by omega), upR_n (by omega)]; exact h1 k hk
      · rw [upR_n (by decide)]; exact q1
      · rw [upR_n (by decide)]; exact q2
      · rw [upR_s, q3, nI_1]
      · rw [upR_n (by decide)]; exact q5
  · have hcl : KQ (if R 13 = 1 then rClose R else R) x y ∧ (if R 13 = 1 then rClose R else R) 13 = 0 ∧ WFr (if R 13 = 1 then rClose R else R) T B := by
      split
      next o => exact ⟨h.close o hs, rClose_13, hw.close⟩
      next o => exact ⟨h, hw.2.2.2.2.2.2.1.resolve_right o, hw⟩
    unfold rFl
    rw [if_neg mg]
    by_cases z0 : rFt R (nI z) = 0
    · rw [if_pos z0, if_pos z0, if_pos (show rFt R (nI z) ≤ 1 by omega)]
      have nf : ¬ rStr R (nI z) < R 4 := by
        intro q
        unfold rFt at z0
        rw [if_neg mg, if_pos q] at z0
        exact absurd z0 (by decide)
      rw [hb, hn] at nf
      have := (not_congr (nI_ltI (a := b) (b := n0) (by omega) (by omega))).mp nf
      refine hcl.1.opn hcl.2.2 hcl.2.1 ?_
      rw [hb, hc, show nI c / 2 = nI (c / 2) from pk_div (d := 2) (by omega) (by decide) (by decide), nI_add]
      exact nb.i (by omega) (by omega)
    · rw [if_neg z0, if_neg z0]
      have : ¬ rFt R (nI z) ≤ 1 := by
        have e := (rFl_no (s := nI z) mg).1
        rcases rFx_cases (R := R) (s := nI z) with q | q | q <;> omega
      rw [if_neg this]
      exact hcl.1
theorem KB.fl (h : KB R) {z : Int32} : KB (rFl R z) := h.congr fun i hi => rFl_o (by omega)
end P50

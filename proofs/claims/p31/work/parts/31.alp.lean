/-! ===== a plate and the row that tells it ===== -/
def AlP (M : xMem) (p : Nat) (R : xRow) : Prop :=
  M p 0 = R 0 ∧ M p 3 = R 10 ∧ M p 4 = R 11 ∧ M p 5 = R 12 ∧ M p 6 = R 13 ∧ M p 7 = R 14 ∧ M p 8 = R 15 ∧ (∀ i, i < 5 → M (p + 1) i = R (1 + i)) ∧ M (p + 2) 0 = 0 ∧ (∀ k, k < 7 → M (p + 2) (k + 1) = R (16 + k)) ∧
  (∀ k, k < 8 → M (p + 3) k = R (23 + 3 * k)) ∧ (∀ k, k < 8 → M (p + 4) k = R (24 + 3 * k)) ∧ (∀ k, k < 8 → M (p + 5) k = R (25 + 3 * k))
section P31
variable {M M' : xMem} {p : Nat} {R R' : xRow}
theorem AlP.u0 (h : AlP M p R) (v : Int32) : AlP (xup M p 0 v) p (upR R 0 v) := by
  obtain ⟨a0, a3, a4, a5, a6, a7, a8, s, b0, b, n1, n2, n3⟩ := h
  exact ⟨by rw [xup_s, upR_s], by rw [xup_i (by decide), upR_n (by decide)]; exact a3, by rw [xup_i (by decide), upR_n (by decide)]; exact a4, by rw [xup_i (by decide), upR_n (by decide)]; exact a5, by rw [xup_i (by decide), upR_n (by decide)]; exact a6, by rw [xup_i (by decide), upR_n (by decide)]; exact a7, by rw [xup_i (by decide), upR_n (by decide)]; exact a8, fun i hi => by rw [xup_k (by omega), upR_n (by omega)]; exact s i hi, by rw [xup_k (by omega)]; exact b0, fun i hi => by rw [xup_k (by omega), upR_n (by omega)]; exact b i hi, fun i hi => by rw [xup_k (by omega), upR_n (by omega)]; exact n1 i hi, fun i hi => by rw [xup_k (by omega), upR_n (by omega)]; exact n2 i hi, fun i hi => by rw [xup_k (by omega), upR_n (by omega)]; exact n3 i hi⟩
theorem AlP.u3 (h : AlP M p R) (v : Int32) : AlP (xup M p 3 v) p (upR R 10 v) := by
  obtain ⟨a0, a3, a4, a5, a6, a7, a8, s, b0, b, n1, n2, n3⟩ := h
  exact ⟨by rw [xup_i (by decide), upR_n (by decide)]; exact a0, by rw [xup_s, upR_s], by rw [xup_i (by decide), upR_n (by decide)]; exact a4, by rw [xup_i (by decide), upR_n (by decide)]; exact a5, by rw [xup_i (by decide), upR_n (by decide)]; exact a6, by rw [xup_i (by decide), upR_n (by decide)]; exact a7, by rw [xup_i (by decide), upR_n (by decide)]; exact a8, fun i hi => by rw [xup_k (by omega), upR_n (by omega)]; exact s i hi, by rw [xup_k (by omega)]; exact b0, fun i hi => by rw [xup_k (by omega), upR_n (by omega)]; exact b i hi, fun i hi => by rw [xup_k (by omega), upR_n (by omega)]; exact n1 i hi, fun i hi => by rw [xup_k (by omega), upR_n (by omega)]; exact n2 i hi, fun i hi => by rw [xup_k (by omega), upR_n (by omega)]; exact n3 i hi⟩
theorem AlP.u4 (h : AlP M p R) (v : Int32) : AlP (xup M p 4 v) p (upR R 11 v) := by
  obtain ⟨a0, a3, a4, a5, a6, a7, a8, s, b0, b, n1, n2, n3⟩ := h
  exact ⟨by rw [xup_i (by decide), upR_n (by decide)]; exact a0, by rw [xup_i (by decide), upR_n (by decide)]; exact a3, by rw [xup_s, upR_s], by rw [xup_i (by decide), upR_n (by decide)]; exact a5, by rw [xup_i (by decide), upR_n (by decide)]; exact a6, by rw [xup_i (by decide), upR_n (by decide)]; exact a7, by rw [xup_i (by decide), upR_n (by decide)]; exact a8, fun i hi => by rw [xup_k (by omega), upR_n (by omega)]; exact s i hi, by rw [xup_k (by omega)]; exact b0, fun i hi => by rw [xup_k (by omega), upR_n (by omega)]; exact b i hi, fun i hi => by rw [xup_k (by omega), upR_n (by omega)]; exact n1 i hi, fun i hi => by rw [xup_k (by omega), upR_n (by omega)]; exact n2 i hi, fun i hi => by rw [xup_k (by omega), upR_n (by omega)]; exact n3 i hi⟩
theorem AlP.u5 (h : AlP M p R) (v : Int32) : AlP (xup M p 5 v) p (upR R 12 v) := by
  obtain ⟨a0, a3, a4, a5, a6, a7, a8, s, b0, b, n1, n2, n3⟩ := h
  exact ⟨by rw [xup_i (by decide), upR_n (by decide)]; exact a0, by rw [xup_i (by decide), upR_n (by decide)]; exact a3, by rw [xup_i (by decide), upR_n (by decide)]; exact a4, by rw [xup_s, upR_s], by rw [xup_i (by decide), upR_n (by decide)]; exact a6, by rw [xup_i (by decide), upR_n (by decide)]; exact a7, by rw [xup_i (by decide), upR_n (by decide)]; exact a8, fun i hi => by rw [xup_k (by omega), upR_n (by omega)]; exact s i hi, by rw [xup_k (by omega)]; exact b0, fun i hi => by rw [xup_k (by omega), upR_n (by omega)]; exact b i hi, fun i hi => by rw [xup_k (by omega), upR_n (by omega)]; exact n1 i hi, fun i hi => by rw [xup_k (by omega), upR_n (by omega)]; exact n2 i hi, fun i hi => by rw [xup_k (by omega), upR_n (by omega)]; exact n3 i hi⟩
theorem AlP.u6 (h : AlP M p R) (v : Int32) : AlP (xup M p 6 v) p (upR R 13 v) := by
  obtain ⟨a0, a3, a4, a5, a6, a7, a8, s, b0, b, n1, n2, n3⟩ := h
  exact ⟨by rw [xup_i (by decide), upR_n (by decide)]; exact a0, by rw [xup_i (by decide), upR_n (by decide)]; exact a3, by rw [xup_i (by decide), upR_n (by decide)]; exact a4, by rw [xup_i (by decide), upR_n (by decide)]; exact a5, by rw [xup_s, upR_s], by rw [xup_i (by decide), upR_n (by decide)]; exact a7, by rw [xup_i (by decide), upR_n (by decide)]; exact a8, fun i hi => by rw [xup_k (by omega), upR_n (by omega)]; exact s i hi, by rw [xup_k (by omega)]; exact b0, fun i hi => by rw [xup_k (by omega), upR_n (by omega)]; exact b i hi, fun i hi => by rw [xup_k (by omega), upR_n (by omega)]; exact n1 i hi, fun i hi => by rw [xup_k (by omega), upR_n (by omega)]; exact n2 i hi, fun i hi => by rw [xup_k (by omega), upR_n (by omega)]; exact n3 i hi⟩
theorem AlP.u7 (h : AlP M p R) (v : Int32) : AlP (xup M p 7 v) p (upR R 14 v) := by
  obtain ⟨a0, a3, a4, a5, a6, a7, a8, s, b0, b, n1, n2, n3⟩ := h
  exact ⟨by rw [xup_i (by decide), upR_n (by decide)]; exact a0, by rw [xup_i (by decide), upR_n (by decide)]; exact a3, by rw [xup_i (by decide), upR_n (by decide)]; exact a4, by rw [xup_i (by decide), upR_n (by decide)]; exact a5, by rw [xup_i (by decide), upR_n (by decide)]; exact a6, by rw [xup_s, upR_s], by rw [xup_i (by decide), upR_n (by decide)]; exact a8, fun i hi => by rw [xup_k (by omega), upR_n (by omega)]; exact s i hi, by rw [xup_k (by omega)]; exact b0, fun i hi => by rw [xup_k (by omega), upR_n (by omega)]; exact b i hi, fun i hi => by rw [xup_k (by omega), upR_n (by omega)]; exact n1 i hi, fun i hi => by rw [xup_k (by omega), upR_n (by omega)]; exact n2 i hi, fun i hi => by rw [xup_k (by omega), upR_n (by omega)]; exact n3 i hi⟩
theorem AlP.u8 (h : AlP M p R) (v : Int32) : AlP (xup M p 8 v) p (upR R 15 v) := by
  obtain ⟨a0, a3, a4, a5, a6, a7, a8, s, b0, b, n1, n2, n3⟩ := h
  exact ⟨by rw [xup_i (by decide), upR_n (by decide)]; exact a0, by rw [xup_i (by decide), upR_n (by decide)]; exact a3, by rw [xup_i (by decide), upR_n (by decide)]; exact a4, by rw [xup_i (by decide), upR_n (by decide)]; exact a5, by rw [xup_i (by decide), upR_n (by decide)]; exact a6, by rw [xup_i (by decide), upR_n (by decide)]; exact a7, by rw [xup_s, upR_s], fun i hi => by rw [xup_k (by omega), upR_n (by omega)]; exact s i hi, by rw [xup_k (by omega)]; exact b0, fun i hi => by rw [xup_k (by omega), upR_n (by omega)]; exact b i hi, fun i hi => by rw [xup_k (by omega), upR_n (by omega)]; exact n1 i hi, fun i hi => by rw [xup_k (by omega), upR_n (by omega)]; exact n2 i hi, fun i hi => by rw [xup_k (by omega), upR_n (by omega)]; exact n3 i hi⟩
theorem AlP.set (h : AlP M p R) {k : Nat} (hk : k < 5) (v : Int32) : AlP (xup M (p + 1) k v) p (upR R (1 + k) v) := by
  obtain ⟨a0, a3, a4, a5, a6, a7, a8, s, b0, b, n1, n2, n3⟩ := h
  exact ⟨by rw [xup_k (by omega), upR_n (by omega)]; exact a0, by rw [xup_k (by omega), upR_n (by omega)]; exact a3, by rw [xup_k (by omega), upR_n (by omega)]; exact a4, by rw [xup_k (by omega), upR_n (by omega)]; exact a5, by rw [xup_k (by omega), upR_n (by omega)]; exact a6, by rw [xup_k (by omega), upR_n (by omega)]; exact a7, by rw [xup_k (by omega), upR_n (by omega)]; exact a8, fun i hi => by
    by_cases e : i = k
    · subst e; rw [xup_s, upR_s]
    · rw [xup_i (by omega), upR_n (by omega)]; exact s i hi, by rw [xup_k (by omega)]; exact b0, fun i hi => by rw [xup_k (by omega), upR_n (by omega)]; exact b i hi, fun i hi => by rw [xup_k (by omega), upR_n (by omega)]; exact n1 i hi, fun i hi => by rw [xup_k (by omega), upR_n (by omega)]; exact n2 i hi, fun i hi => by rw [xup_k (by omega), upR_n (by omega)]; exact n3 i hi⟩
theorem AlP.bor (h : AlP M p R) {k : Nat} (hk : k < 7) (v : Int32) : AlP (xup M (p + 2) (k + 1) v) p (upR R (16 + k) v) := by
  obtain ⟨a0, a3, a4, a5, a6, a7, a8, s, b0, b, n1, n2, n3⟩ := h
  exact ⟨by rw [xup_k (by omega), upR_n (by omega)]; exact a0, by rw [xup_k (by omega), upR_n (by omega)]; exact a3, by rw [xup_k (by omega), upR_n (by omega)]; exact a4, by rw [xup_k (by omega), upR_n (by omega)]; exact a5, by rw [xup_k (by omega), upR_n (by omega)]; exact a6, by rw [xup_k (by omega), upR_n (by omega)]; exact a7, by rw [xup_k (by omega), upR_n (by omega)]; exact a8, fun i hi => by rw [xup_k (by omega), upR_n (by omega)]; exact s i hi, by rw [xup_i (by omega)]; exact b0, fun i hi => by
    by_cases e : i = k
    · subst e; rw [xup_s, upR_s]
    · rw [xup_i (by omega), upR_n (by omega)]; exact b i hi, fun i hi => by rw [xup_k (by omega), upR_n (by omega)]; exact n1 i hi, fun i hi => by rw [xup_k (by omega), upR_n (by omega)]; exact n2 i hi, fun i hi => by rw [xup_k (by omega), upR_n (by omega)]; exact n3 i hi⟩
theorem AlP.n3 (h : AlP M p R) {k : Nat} (hk : k < 8) (v : Int32) : AlP (xup M (p + 3) k v) p (upR R (23 + 3 * k) v) := by
  obtain ⟨a0, a3, a4, a5, a6, a7, a8, s, b0, b, n1, n2, n3⟩ := h
  exact ⟨by rw [xup_k (by omega), upR_n (by omega)]; exact a0, by rw [xup_k (by omega), upR_n (by omega)]; exact a3, by rw [xup_k (by omega), upR_n (by omega)]; exact a4, by rw [xup_k (by omega), upR_n (by omega)]; exact a5, by rw [xup_k (by omega), upR_n (by omega)]; exact a6, by rw [xup_k (by omega), upR_n (by omega)]; exact a7, by rw [xup_k (by omega), upR_n (by omega)]; exact a8, fun i hi => by rw [xup_k (by omega), upR_n (by omega)]; exact s i hi, by rw [xup_k (by omega)]; exact b0, fun i hi => by rw [xup_k (by omega), upR_n (by omega)]; exact b i hi, fun i hi => by
    by_cases e : i = k
    · subst e; rw [xup_s, upR_s]
    · rw [xup_i (by omega), upR_n (by omega)]; exact n1 i hi, fun i hi => by rw [xup_k (by omega), upR_n (by omega)]; exact n2 i hi, fun i hi => by rw [xup_k (by omega), upR_n (by omega)]; exact n3 i hi⟩
theorem AlP.n4 (h : AlP M p R) {k : Nat} (hk : k < 8) (v : Int32) : AlP (xup M (p + 4) k v) p (upR R (24 + 3 * k) v) := by
  obtain ⟨a0, a3, a4, a5, a6, a7, a8, s, b0, b, n1, n2, n3⟩ := h
  exact ⟨by rw [xup_k (by omega), upR_n (by omega)]; exact a0, by rw [xup_k (by omega), upR_n (by omega)]; exact a3, by rw [xup_k (by omega), upR_n (by omega)]; exact a4, by rw [xup_k (by omega), upR_n (by omega)]; exact a5, by rw [xup_k (by omega), upR_n (by omega)]; exact a6, by rw [xup_k (by omega), upR_n (by omega)]; exact a7, by rw [xup_k (by omega), upR_n (by omega)]; exact a8, fun i hi => by rw [xup_k (by omega), upR_n (by omega)]; exact s i hi, by rw [xup_k (by omega)]; exact b0, fun i hi => by rw [xup_k (by omega), upR_n (by omega)]; exact b i hi, fun i hi => by rw [xup_k (by omega), upR_n (by omega)]; exact n1 i hi, fun i hi => by
    by_cases e : i = k
    · subst e; rw [xup_s, upR_s]
    · rw [xup_i (by omega), upR_n (by omega)]; exact n2 i hi, fun i hi => by rw [xup_k (by omega), upR_n (by omega)]; exact n3 i hi⟩
theorem AlP.n5 (h : AlP M p R) {k : Nat} (hk : k < 8) (v : Int32) : AlP (xup M (p + 5) k v) p (upR R (25 + 3 * k) v) := by
  obtain ⟨a0, a3, a4, a5, a6, a7, a8, s, b0, b, n1, n2, n3⟩ := h
  exact ⟨by rw [xup_k (by omega), upR_n (by omega)]; exact a0, by rw [xup_k (by omega), upR_n (by omega)]; exact a3, by rw [xup_k (by omega), upR_n (by omega)]; exact a4, by rw [xup_k (by omega), upR_n (by omega)]; exact a5, by rw [xup_k (by omega), upR_n (by omega)]; exact a6, by rw [xup_k (by omega), upR_n (by omega)]; exact a7, by rw [xup_k (by omega), upR_n (by omega)]; exact a8, fun i hi => by rw [xup_k (by omega), upR_n (by omega)]; exact s i hi, by rw [xup_k (by omega)]; exact b0, fun i hi => by rw [xup_k (by omega), upR_n (by omega)]; exact b i hi, fun i hi => by rw [xup_k (by omega), upR_n (by omega)]; exact n1 i hi, fun i hi => by rw [xup_k (by omega), upR_n (by omega)]; exact n2 i hi, fun i hi => by
    by_cases e : i = k
    · subst e; rw [xup_s, upR_s]
    · rw [xup_i (by omega), upR_n (by omega)]; exact n3 i hi⟩
theorem AlP.congr (h : AlP M p R) (hM : ∀ k i, p ≤ k → k ≤ p + 5 → M' k i = M k i) (hR : ∀ i, (i < 6 ∨ 10 ≤ i) → i < 47 → R' i = R i) : AlP M' p R' := by
  obtain ⟨a0, a3, a4, a5, a6, a7, a8, s, b0, b, n1, n2, n3⟩ := h
  refine ⟨?_, ?_, ?_, ?_, ?_, ?_, ?_, fun i hi => ?_, ?_, fun i hi => ?_, fun i hi => ?_, fun i hi => ?_, fun i hi => ?_⟩ <;> (try rw [hM _ _ (by omega) (by omega)]) <;> (try rw [hR _ (by omega) (by omega)])
  · exact a0
  · exact a3
  · exact a4
  · exact a5
  · exact a6
  · exact a7
  · exact a8
  · exact s i hi
  · exact b0
  · exact b i hi
  · exact n1 i hi
  · exact n2 i hi
  · exact n3 i hi
theorem AlP.much (h : AlP M p R) (w : Int32) : AlP (kStrike M p w) p (rMuch R w) := by
  have e : M (p + 1) 4 = R 5 := h.2.2.2.2.2.2.2.1 4 (by decide)
  unfold kStrike rMuch
  rw [e]
  split
  · exact (h.u8 1).u5 _
  · exact h.u5 _
theorem AlP.opn (h : AlP M p R) (w : Int32) : AlP (kOpen M p w) p (rOpn R w) := by
  have h1 := ((((h.u3 1).u4 (M p 0)).u6 1).u7 1).u8 0
  unfold kOpen rOpn
  refine (h1.congr (fun _ _ _ _ => rfl) (fun i _ hi => ?_)).much w
  rw [h.1]
  simp only [upR]
  by_cases e1 : i = 11 <;> by_cases e2 : i = 10 <;> by_cases e3 : i = 15 <;> by_cases e4 : i = 14 <;> by_cases e5 : i = 13 <;> simp_all
theorem AlP.bin (h : AlP M p R) (w : Int32) : ∀ k, k ≤ 7 → kBin M p w k = rBin R w k
  | 0, _ => rfl
  | k + 1, hk => by
    simp only [kBin, rBin]
    rw [h.2.2.2.2.2.2.2.2.2.1 k (by omega), AlP.bin h w k (by omega)]
theorem rBin_le {h : Int32} : ∀ k, rBin R h k ≤ k
  | 0 => Nat.le_refl 0
  | k + 1 => by unfold rBin; split; exact Nat.le_succ_of_le (rBin_le k); exact Nat.le_refl _
theorem AlP.close (h : AlP M p R) (ho : R 13 = 1) (hs : R 15 = 0 ∨ R 15 = 1) : AlP (kClose M p) p (rClose R) := by
  have hb := h.bin (M p 5) 7 (by omega)
  have hle := rBin_le (R := R) (h := R 12) 7
  have e5 : M p 5 = R 12 := h.2.2.2.1
  have e6 : M p 6 = R 13 := h.2.2.2.2.1
  have e7 : M p 7 = R 14 := h.2.2.2.2.2.1
  have e8 : M p 8 = R 15 := h.2.2.2.2.2.2.1
  rw [e5] at hb
  unfold kClose rClose
  rw [if_neg (by rw [e6, ho]; decide)]
  dsimp only
  rw [e5, hb]
  generalize rBin R (R 12) 7 = k at hle
  have hk : k < 8 := by omega
  have x3 : M (p + 3) k = R (23 + 3 * k) := h.2.2.2.2.2.2.2.2.2.2.1 k hk
  have x4 : M (p + 4) k = R (24 + 3 * k) := h.2.2.2.2.2.2.2.2.2.2.2.1 k hk
  have x5 : M (p + 5) k = R (25 + 3 * k) := h.2.2.2.2.2.2.2.2.2.2.2.2 k hk
  have r1 : upR R (23 + 3 * k) (R (23 + 3 * k) + 1) (24 + 3 * k) = R (24 + 3 * k) := upR_n (by omega)
  have r2 : upR R (23 + 3 * k) (R (23 + 3 * k) + 1) 15 = R 15 := upR_n (by omega)
  rw [r1, r2]
  have r3 : ∀ v w : Int32, upR (upR R (23 + 3 * k) v) (24 + 3 * k) w (25 + 3 * k) = R (25 + 3 * k) := fun v w => by rw [upR_n (by omega), upR_n (by omega)]
  have r4 : ∀ v w : Int32, upR (upR R (23 + 3 * k) v) (24 + 3 * k) w 14 = R 14 := fun v w => by rw [upR_n (by omega), upR_n (by omega)]
  rw [r3, r4, e8]
  rcases hs with hs | hs
  · rw [if_pos hs, hs, x3, x5, e7]
    have g := ((h.n3 hk (R (23 + 3 * k) + 1)).n5 hk (R (25 + 3 * k) + R 14)).u6 0
    refine g.congr (fun _ _ _ _ => rfl) (fun i _ hi => ?_)
    simp only [upR]
    by_cases q1 : i = 13
    · simp [q1]
    · by_cases q2 : i = 25 + 3 * k
      · simp [q2]
      · by_cases q3 : i = 24 + 3 * k
        · simp [q3]
        · simp [q1, q2, q3]
  · rw [if_neg (by rw [hs]; decide), hs, x3, x4, x5, e7]
    have g := (((h.n3 hk (R (23 + 3 * k) + 1)).n5 hk (R (25 + 3 * k) + R 14)).n4 hk (R (24 + 3 * k) + 1)).u6 0
    refine g.congr (fun _ _ _ _ => rfl) (fun i _ hi => ?_)
    simp only [upR]
    by_cases q1 : i = 13
    · simp [q1]
    · by_cases q2 : i = 25 + 3 * k
      · simp [q2]
      · by_cases q3 : i = 24 + 3 * k
        · simp [q3]
        · simp [q1, q2, q3]
theorem rClose_lo {i : Nat} (hi : i < 13) : rClose R i = R i := by
  unfold rClose
  rw [upR_n (by omega), upR_n (by omega), upR_n (by omega), upR_n (by omega)]
theorem rClose_13 : rClose R 13 = 0 := by unfold rClose; rw [upR_s]
theorem halve_eq : ∀ (k a : Nat), a < 2 ^ 31 → halve k (nI a) = nI (a / 2 ^ k)
  | 0, a, _ => by simp [halve]
  | k + 1, a, h => by
    simp only [halve]
    by_cases z : a = 0
    · subst z; rw [if_neg (show ¬ (0 : Int32) < nI 0 from nI_nlt (Nat.le_refl 0) (by decide))]; simp
    · rw [if_pos (show (0 : Int32) < nI a from nI_lt (a := 0) (by omega) h), show nI a / 2 = nI (a / 2) from pk_div (d := 2) h (by decide) (by decide), halve_eq k (a / 2) (by omega), Nat.div_div_eq_div_mul, Nat.pow_succ, Nat.mul_comm]
/-- what a row's numbers may be where levels are reckoned -/
def nb (v : Int32) (lo hi : Nat) : Prop := ∃ k, lo ≤ k ∧ k ≤ hi ∧ v = nI k
def WFl (R : xRow) : Prop := nb (R 3) 1 9 ∧ nb (R 12) 0 5000
theorem AlP.lev (h : AlP M p R) (hw : WFl R) {t s : Nat} (ht : t < 2 ^ 30) (hs : s ≤ t) (e : R 11 = nI s) : kLev M p (nI t) = rLev R (nI t) := by
  obtain ⟨⟨d, d1, d2, hd⟩, ⟨a, -, a2, ha⟩⟩ := hw
  have e3 : M p 3 = R 10 := h.2.1
  have e4 : M p 4 = R 11 := h.2.2.1
  have e5 : M p 5 = R 12 := h.2.2.2.1
  have ed : M (p + 1) 2 = R 3 := h.2.2.2.2.2.2.2.1 2 (by decide)
  have eh : kHal M p (nI t) = nI ((t - s) / d) := by
    unfold kHal; rw [e4, ed, e, hd, pkSub hs, pk_div (by omega) (by omega) (by omega)]
  have hq : (t - s) / d ≤ t - s := Nat.div_le_self _ _
  unfold kLev rLev
  rw [eh, e3, ed, e5, e, hd, ha, pkSub hs, pk_div (by omega) (by omega) (by omega)]
  by_cases z : R 10 = 0
  · rw [if_pos (Or.inl z), if_pos z]
  · have nd : ¬ (R 10 = 0 ∨ nI d < 1) := fun q => q.elim z (fun q => absurd q (nI_nlt (b := 1) d1 (by omega)))
    rw [if_neg nd, if_neg z, nI_clamp (by omega), halve_eq _ _ (by omega)]
    generalize (t - s) / d = k at hq
    by_cases g : 13 < k
    · rw [if_pos (Or.inr (show (13 : Int32) < nI k from nI_lt (a := 13) g (by omega)))]
      have : a / 2 ^ k = 0 := Nat.div_eq_of_lt (Nat.lt_of_lt_of_le (show a < 2 ^ 13 by omega) (Nat.pow_le_pow_right (by decide) (by omega)))
      rw [this]; rfl
    · rw [if_neg (fun q => q.elim (fun q => absurd q (nI_pos (by omega))) (fun q => absurd ((nI_ltI (a := 13) (by decide) (by omega)).mp q) g))]
      have hk : k = 0 ∨ k = 1 ∨ k = 2 ∨ k = 3 ∨ k = 4 ∨ k = 5 ∨ k = 6 ∨ k = 7 ∨ k = 8 ∨ k = 9 ∨ k = 10 ∨ k = 11 ∨ k = 12 ∨ k = 13 := by omega
      rcases hk with rfl | rfl | rfl | rfl | rfl | rfl | rfl | rfl | rfl | rfl | rfl | rfl | rfl | rfl <;> exact pk_shrN (by omega) _ _ (by decide)
end P31

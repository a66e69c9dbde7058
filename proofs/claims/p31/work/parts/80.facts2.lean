/-! ===== what is told of a row that is kept so ===== -/
section P80
theorem kRs_n {v r s : Nat} (hv : v ≤ 5000) (hr : r ≤ 200) (hs : s ≤ 64) : kRs (nI v) (nI r) (nI s) = nI (if v < (r + s) * (r + s) then r else r + s) := by
  have h1 : (r + s) * (r + s) ≤ 264 * 264 := Nat.mul_le_mul (by omega) (by omega)
  unfold kRs
  rw [nI_add, pk_mul]
  by_cases c : v < (r + s) * (r + s)
  · rw [if_pos (nI_lt c (by omega)), if_pos c]
  · rw [if_neg (fun q => c ((nI_ltI (by omega) (by omega)).mp q)), if_neg c]
theorem kRs_i {v r s : Nat} (h1 : r * r ≤ v) (h2 : v < (r + s + s) * (r + s + s)) : ∀ r', r' = (if v < (r + s) * (r + s) then r else r + s) → r' * r' ≤ v ∧ v < (r' + s) * (r' + s) ∧ r' ≤ r + s := by
  intro r' e
  by_cases c : v < (r + s) * (r + s)
  · rw [if_pos c] at e; subst e; exact ⟨h1, c, by omega⟩
  · rw [if_neg c] at e; subst e; exact ⟨by omega, h2, by omega⟩
/-- the class's root is the whole root -/
theorem kRoot_n {v : Nat} (hv : v ≤ 5000) : ∃ s, kRoot (nI v) = nI s ∧ s * s ≤ v ∧ v < (s + 1) * (s + 1) ∧ s ≤ 127 := by
  unfold kRoot
  obtain ⟨r1, e1⟩ : ∃ r, r = (if v < (0 + 64) * (0 + 64) then 0 else 0 + 64) := ⟨_, rfl⟩
  obtain ⟨a1, b1, c1⟩ := kRs_i (v := v) (r := 0) (s := 64) (by omega) (by omega) _ e1
  obtain ⟨r2, e2⟩ : ∃ r, r = (if v < (r1 + 32) * (r1 + 32) then r1 else r1 + 32) := ⟨_, rfl⟩
  obtain ⟨a2, b2, c2⟩ := kRs_i (s := 32) a1 (by rw [show r1 + 32 + 32 = r1 + 64 by omega]; exact b1) _ e2
  obtain ⟨r3, e3⟩ : ∃ r, r = (if v < (r2 + 16) * (r2 + 16) then r2 else r2 + 16) := ⟨_, rfl⟩
  obtain ⟨a3, b3, c3⟩ := kRs_i (s := 16) a2 (by rw [show r2 + 16 + 16 = r2 + 32 by omega]; exact b2) _ e3
  obtain ⟨r4, e4⟩ : ∃ r, r = (if v < (r3 + 8) * (r3 + 8) then r3 else r3 + 8) := ⟨_, rfl⟩
  obtain ⟨a4, b4, c4⟩ := kRs_i (s := 8) a3 (by rw [show r3 + 8 + 8 = r3 + 16 by omega]; exact b3) _ e4
  obtain ⟨r5, e5⟩ : ∃ r, r = (if v < (r4 + 4) * (r4 + 4) then r4 else r4 + 4) := ⟨_, rfl⟩
  obtain ⟨a5, b5, c5⟩ := kRs_i (s := 4) a4 (by rw [show r4 + 4 + 4 = r4 + 8 by omega]; exact b4) _ e5
  obtain ⟨r6, e6⟩ : ∃ r, r = (if v < (r5 + 2) * (r5 + 2) then r5 else r5 + 2) := ⟨_, rfl⟩
  obtain ⟨a6, b6, c6⟩ := kRs_i (s := 2) a5 (by rw [show r5 + 2 + 2 = r5 + 4 by omega]; exact b5) _ e6
  obtain ⟨r7, e7⟩ : ∃ r, r = (if v < (r6 + 1) * (r6 + 1) then r6 else r6 + 1) := ⟨_, rfl⟩
  obtain ⟨a7, b7, c7⟩ := kRs_i (s := 1) a6 (by rw [show r6 + 1 + 1 = r6 + 2 by omega]; exact b6) _ e7
  refine ⟨r7, ?_, a7, b7, by omega⟩
  rw [show kRs (nI v) 0 64 = nI r1 by rw [e1]; exact kRs_n (r := 0) (s := 64) hv (by omega) (by omega)]
  rw [show kRs (nI v) (nI r1) 32 = nI r2 by rw [e2]; exact kRs_n (s := 32) hv (by omega) (by omega)]
  rw [show kRs (nI v) (nI r2) 16 = nI r3 by rw [e3]; exact kRs_n (s := 16) hv (by omega) (by omega)]
  rw [show kRs (nI v) (nI r3) 8 = nI r4 by rw [e4]; exact kRs_n (s := 8) hv (by omega) (by omega)]
  rw [show kRs (nI v) (nI r4) 4 = nI r5 by rw [e5]; exact kRs_n (s := 4) hv (by omega) (by omega)]
  rw [show kRs (nI v) (nI r5) 2 = nI r6 by rw [e6]; exact kRs_n (s := 2) hv (by omega) (by omega)]
  rw [e7]; exact kRs_n (s := 1) hv (by omega) (by omega)

theorem lN_leB {a b : Nat} (hb : b < 2 ^ 63) (h : a ≤ b) : lN a ≤ lN b := by
  rw [Int64.le_iff_toInt_le, show (lN a).toInt = a from lg_ofNat_toInt (by omega), show (lN b).toInt = b from lg_ofNat_toInt hb]
  omega
theorem kSum_nI {g : Nat → Int32} {p : Nat → Nat} : ∀ n, (∀ i, i < n → g i = nI (p i)) → kSum g n = nI (nS p n)
  | 0, _ => rfl
  | n + 1, h => by unfold kSum nS; rw [kSum_nI n (fun i hi => h i (by omega)), h n (by omega), nI_add]
theorem nC_run {g : Nat → Int32} {v : Int32} {i m : Nat} : ∀ n, i + m ≤ n → (∀ j, i ≤ j → j < i + m → g j = v) → m ≤ nC g v n
  | 0, h, _ => by omega
  | n + 1, h, e => by
    by_cases c : i + m ≤ n
    · exact Nat.le_trans (nC_run n c e) (nC_mono (n + 1) (Nat.le_succ n))
    · by_cases z : m = 0
      · omega
      · obtain ⟨k, rfl⟩ : ∃ k, m = k + 1 := ⟨m - 1, by omega⟩
        have := nC_run (g := g) (v := v) (i := i) (m := k) n (by omega) (fun j h1 h2 => e j h1 (by omega))
        rw [show nC g v (n + 1) = nC g v n + (if g n = v then 1 else 0) from rfl, if_pos (e n (by omega) (by omega))]
        omega
theorem nC_zero {g : Nat → Int32} {v : Int32} : ∀ n, (∀ j, j < n → ¬ g j = v) → nC g v n = 0
  | 0, _ => rfl
  | n + 1, h => by unfold nC; rw [nC_zero n (fun j hj => h j (by omega)), if_neg (h n (by omega))]
theorem nC_rev {g : Nat → Int32} {v : Int32} : ∀ n, nC (fun j => g (n - 1 - j)) v n = nC g v n
  | 0 => rfl
  | n + 1 => by
    have ih := nC_rev (g := g) (v := v) n
    rw [nC_shift, show nC g v (n + 1) = nC g v n + (if g n = v then 1 else 0) from rfl]
    simp only [Nat.add_sub_cancel, Nat.sub_zero]
    rw [nC_congr (f := fun j => g (n - (j + 1))) (g := fun j => g (n - 1 - j)) n (fun i hi => by rw [show n - (i + 1) = n - 1 - i by omega])]
    omega
theorem nC_lt {g : Nat → Int32} {v : Int32} {j : Nat} : ∀ n, j < n → g j = v → 1 ≤ nC g v n
  | n, h, e => nC_run (i := j) n (by omega) (fun z h1 h2 => by rw [show z = j by omega]; exact e)
end P80
section P80b
variable {R : xRow} {T B r x y : Nat} {c p f m b : Nat → Nat} {d : Nat}
theorem lAbout_v {w : Int32} (h : kdAbout w = 0) : lAbout R w = (aAbout R w).toInt64 := by unfold lAbout; rw [lC_0 h]
theorem fA0 {t : Nat} (h : R 0 = nI t) (ht : t < 2 ^ 31) : lAbout R 0 = lN t := by
  rw [lAbout_v (by decide), show aAbout R 0 = R 0 by simp [aAbout], h, nI_l ht]
theorem KA.cl (ha : KA R c r) : nS c 4 < 2 ^ 30 ∧ ∀ i, i < 4 → c i < 2 ^ 30 := by
  have h3 := ha.2.2.1
  have h4 := ha.2.2.2.1
  exact ⟨by omega, fun i hi => by have := nS_ge (f := c) 4 hi; omega⟩
theorem fA1 (ha : KA R c r) : lAbout R 1 = lN (nS c 4) := by
  have q := ha.cl
  rw [lAbout_v (by decide), show aAbout R 1 = rDrops R by simp [aAbout]]
  unfold rDrops
  rw [show R 6 = nI (c 0) from ha.1 0 (by decide), show R 7 = nI (c 1) from ha.1 1 (by decide), show R 8 = nI (c 2) from ha.1 2 (by decide), show R 9 = nI (c 3) from ha.1 3 (by decide), nI_add, nI_add, nI_add, nI_l (by have := q.1; simp only [nS] at this; omega)]
  simp only [nS, Nat.zero_add]
theorem aAbout_c {i : Nat} (hi : i < 4) : kdAbout (2 + nI i) = 0 ∧ aAbout R (2 + nI i) = R (6 + i) := by
  have z : i = 0 ∨ i = 1 ∨ i = 2 ∨ i = 3 := by omega
  rcases z with rfl | rfl | rfl | rfl
  · exact ⟨by decide, by rw [show (2 + nI 0 : Int32) = 2 by decide]; simp [aAbout]⟩
  · exact ⟨by decide, by rw [show (2 + nI 1 : Int32) = 3 by decide]; simp [aAbout]⟩
  · exact ⟨by decide, by rw [show (2 + nI 2 : Int32) = 4 by decide]; simp [aAbout]⟩
  · exact ⟨by decide, by rw [show (2 + nI 3 : Int32) = 5 by decide]; simp [aAbout]⟩
theorem fA2 (ha : KA R c r) {i : Nat} (hi : i < 4) : lAbout R (2 + nI i) = lN (c i) := by
  rw [lAbout_v (aAbout_c (R := R) hi).1, (aAbout_c hi).2, ha.1 i hi, nI_l (by have := ha.cl.2 i hi; omega)]
theorem fA2' (ha : KA R c r) : lAbout R 2 = lN (c 0) ∧ lAbout R 3 = lN (c 1) := ⟨fA2 ha (i := 0) (by decide), fA2 ha (i := 1) (by decide)⟩
theorem fA6 (hb : ∀ k, k < 8 → R (23 + 3 * k) = nI (p k) ∧ R (24 + 3 * k) = nI (f k) ∧ R (25 + 3 * k) = nI (m k) ∧ f k ≤ p k ∧ p k ≤ m k) (hs : nS p 8 < 2 ^ 31) : lAbout R 6 = lN (nS p 8) ∧ lAbout R 7 = lN (nS f 8) := by
  have hf : nS f 8 ≤ nS p 8 := nS_mono 8 fun i hi => (hb i hi).2.2.2.1
  constructor
  · rw [lAbout_v (by decide), show aAbout R 6 = rInB R 0 by simp [aAbout]]
    rw [show rInB R 0 = nI (nS p 8) from kSum_nI 8 (fun i hi => (hb i hi).1), nI_l hs]
  · rw [lAbout_v (by decide), show aAbout R 7 = rInB R 1 by simp [aAbout]]
    rw [show rInB R 1 = nI (nS f 8) from kSum_nI 8 (fun i hi => by have := (hb i hi).2.1; rw [show 24 + 3 * i = 23 + 3 * i + 1 by omega] at this; exact this), nI_l (by omega)]
theorem fLev (hw : WFr R T B) : ∃ v a, rLev R (R 0) = nI v ∧ R 12 = nI a ∧ v ≤ a ∧ a ≤ 5000 := by
  obtain ⟨-, -, -, -, -, -, -, -, ⟨a, -, a2, ha⟩, -⟩ := hw
  unfold rLev
  split
  · exact ⟨0, a, rfl, ha, Nat.zero_le _, a2⟩
  · rw [ha, halve_eq _ _ (by omega)]
    exact ⟨_, a, rfl, rfl, Nat.div_le_self _ _, a2⟩
theorem fA8 {v : Nat} (h : rLev R (R 0) = nI v) (hv : v < 2 ^ 31) : lAbout R 8 = lN v := by
  rw [lAbout_v (by decide), show aAbout R 8 = rLev R (R 0) by simp [aAbout], h, nI_l hv]
theorem fA9 (ha : KA R c r) : lAbout R 9 = lN (min (nS c 4) 40) := by
  rw [lAbout_v (by decide), show aAbout R 9 = R 108 by simp [aAbout], ha.2.2.2.2.2.1, nI_l (by omega)]
theorem fA10 (ha : KA R c r) : lAbout R 10 = lN (min (nS c 4) 60) := by
  rw [lAbout_v (by decide), show aAbout R 10 = R 47 by simp [aAbout], ha.2.2.2.2.1, nI_l (by omega)]
theorem fA11 : lAbout R 11 = (R 13).toInt64 := by
  rw [lAbout_v (by decide), show aAbout R 11 = R 13 by simp [aAbout]]
/-! bins -/
def bLo (b : Nat → Nat) (k : Nat) : Nat := if k = 0 then 0 else b (k - 1)
def bHi (b : Nat → Nat) (k : Nat) : Nat := if k = 7 then 5000 else b k - 1
theorem bE (h1 : ∀ k, k < 7 → R (16 + k) = nI (b k) ∧ 1 ≤ b k ∧ b k ≤ 5000) (h2 : ∀ k, k < 6 → b k < b (k + 1)) {k : Nat} (hk : k < 8) :
    rLow R k = nI (bLo b k) ∧ rHigh R k = nI (bHi b k) ∧ bLo b k ≤ bHi b k ∧ bHi b k ≤ 5000 ∧ (k = 0 → bLo b k = 0) ∧ (1 ≤ k → bLo b k = bHi b (k - 1) + 1) := by
  unfold rLow rHigh bLo bHi
  by_cases z : k = 0
  · subst z
    have q := h1 0 (by decide)
    simp only [if_true, show ¬ (0 = 7) by decide, if_false]
    refine ⟨rfl, ?_, by omega, by omega, fun _ => trivial, fun q => absurd q (by decide)⟩
    rw [q.1]; exact pkSub (b := 1) q.2.1
  · have q := h1 (k - 1) (by omega)
    rw [show 16 + (k - 1) = 15 + k by omega] at q
    rw [if_neg z, if_neg z]
    by_cases s : k = 7
    · subst s
      simp only [if_true]
      refine ⟨q.1, rfl, q.2.2, Nat.le_refl _, fun w => absurd w (by decide), fun _ => ?_⟩
      simp only [show ¬ (7 - 1 = 7) by decide, if_false]
      omega
    · have q' := h1 k (by omega)
      have q'' := h2 (k - 1) (by omega)
      rw [show k - 1 + 1 = k by omega] at q''
      rw [if_neg s, if_neg s]
      refine ⟨q.1, by rw [q'.1]; exact pkSub (b := 1) q'.2.1, by omega, by omega, fun w => absurd w z, fun _ => ?_⟩
      rw [if_neg (by omega)]
      omega
theorem lBin_v {k : Nat} (hk : k < 8) {w : Nat} (hw : w < 5) : lBin R (nI k) (nI w) = (aBin R k (nI w)).toInt64 := by
  unfold lBin
  have e : kdBin (nI k) (nI w) = 0 := by
    unfold kdBin
    rw [if_neg (fun q => q.elim (nI_pos (by omega)) (fun q => absurd ((nI_ltI (a := 7) (by decide) (by omega)).mp q) (by omega)))]
    have : w = 0 ∨ w = 1 ∨ w = 2 ∨ w = 3 ∨ w = 4 := by omega
    rcases this with rfl | rfl | rfl | rfl | rfl <;> rw [if_pos (by decide)]
  rw [lC_0 e, nI_clamp (by omega)]
theorem fB0 (h1 : ∀ k, k < 7 → R (16 + k) = nI (b k) ∧ 1 ≤ b k ∧ b k ≤ 5000) (h2 : ∀ k, k < 6 → b k < b (k + 1)) {k : Nat} (hk : k < 8) : lBin R (nI k) 0 = lN (bLo b k) ∧ lBin R (nI k) 1 = lN (bHi b k) := by
  obtain ⟨e1, e2, e3, e4, -⟩ := bE h1 h2 hk
  constructor
  · rw [show (0 : Int32) = nI 0 from rfl, lBin_v hk (by decide), show aBin R k (nI 0) = rLow R k by unfold aBin; rw [if_pos (by decide)], e1, nI_l (by omega)]
  · rw [show (1 : Int32) = nI 1 from rfl, lBin_v hk (by decide), show aBin R k (nI 1) = rHigh R k by unfold aBin; rw [if_neg (by decide), if_pos (by decide)], e2, nI_l (by omega)]
theorem fB2 (hb : ∀ k, k < 8 → R (23 + 3 * k) = nI (p k) ∧ R (24 + 3 * k) = nI (f k) ∧ R (25 + 3 * k) = nI (m k) ∧ f k ≤ p k ∧ p k ≤ m k) {k : Nat} (hk : k < 8) (hm : m k < 2 ^ 31) : lBin R (nI k) 2 = lN (p k) ∧ lBin R (nI k) 3 = lN (f k) ∧ lBin R (nI k) 4 = lN (m k) := by
  obtain ⟨q1, q2, q3, q4, q5⟩ := hb k hk
  refine ⟨?_, ?_, ?_⟩
  · rw [show (2 : Int32) = nI 2 from rfl, lBin_v hk (by decide), show aBin R k (nI 2) = R (23 + 3 * k) by unfold aBin; rw [if_neg (by decide), if_neg (by decide), if_pos (by decide)], q1, nI_l (by omega)]
  · rw [show (3 : Int32) = nI 3 from rfl, lBin_v hk (by decide), show aBin R k (nI 3) = R (24 + 3 * k) by unfold aBin; rw [if_neg (by decide), if_neg (by decide), if_neg (by decide), if_pos (by decide)], q2, nI_l (by omega)]
  · rw [show (4 : Int32) = nI 4 from rfl, lBin_v hk (by decide), show aBin R k (nI 4) = R (25 + 3 * k) by unfold aBin; rw [if_neg (by decide), if_neg (by decide), if_neg (by decide), if_neg (by decide)], q3, nI_l (by omega)]
/-! rain -/
def bEnd (b : Nat → Nat) (w k : Nat) : Nat := if w = 0 then bLo b k else if w = 1 then (bLo b k + bHi b k) / 2 else bHi b k
theorem fRain (hb : ∀ k, k < 8 → R (23 + 3 * k) = nI (p k) ∧ R (24 + 3 * k) = nI (f k) ∧ R (25 + 3 * k) = nI (m k) ∧ f k ≤ p k ∧ p k ≤ m k) (h1 : ∀ k, k < 7 → R (16 + k) = nI (b k) ∧ 1 ≤ b k ∧ b k ≤ 5000) (h2 : ∀ k, k < 6 → b k < b (k + 1)) (hs : nS p 8 < 2 ^ 30) :
    ∃ g : Nat → Nat → Nat, (∀ w, w < 3 → lRain R (nI w) = lN (nS (fun k => p k * g w k) 8)) ∧ ∀ k, k < 8 → g 0 k ≤ g 1 k ∧ g 1 k ≤ g 2 k ∧ g 2 k ≤ 2048383 := by
  have ex : ∀ w k, ∃ s, w < 3 → k < 8 → kRoot (rEnd R k (nI w)) = nI s ∧ s * s ≤ bEnd b w k ∧ bEnd b w k < (s + 1) * (s + 1) ∧ s ≤ 127 := by
    intro w k
    by_cases hw : w < 3
    · by_cases hk : k < 8
      · obtain ⟨e1, e2, e3, e4, -⟩ := bE h1 h2 hk
        have e : rEnd R k (nI w) = nI (bEnd b w k) ∧ bEnd b w k ≤ 5000 := by
          unfold rEnd bEnd
          have : w = 0 ∨ w = 1 ∨ w = 2 := by omega
          rcases this with rfl | rfl | rfl
          · rw [if_pos (by decide), if_pos rfl]; exact ⟨e1, by omega⟩
          · rw [if_neg (by decide), if_pos (by decide), if_neg (by decide), if_pos rfl, e1, e2, nI_add]
            exact ⟨pkD _ 2 (by omega) (by decide) (by decide), by omega⟩
          · rw [if_neg (by decide), if_neg (by decide), if_neg (by decide), if_neg (by decide)]; exact ⟨e2, e4⟩
        rw [e.1]
        obtain ⟨s, q1, q2, q3, q4⟩ := kRoot_n e.2
        exact ⟨s, fun _ _ => ⟨q1, q2, q3, q4⟩⟩
      · exact ⟨0, fun _ q => absurd q hk⟩
    · exact ⟨0, fun q => absurd q hw⟩
  refine ⟨fun w k => (Classical.choose (ex w k)) * (Classical.choose (ex w k)) * (Classical.choose (ex w k)), fun w hw => ?_, fun k hk => ?_⟩
  · have hsp := fun k => Classical.choose_spec (ex w k)
    have kd : kdO (nI w) 0 2 = 0 := by
      have : w = 0 ∨ w = 1 ∨ w = 2 := by omega
      rcases this with rfl | rfl | rfl <;> decide
    unfold lRain
    rw [lC_0 kd]
    have key : ∀ j, j ≤ 8 → aRain R (nI w) j = lN (nS (fun k => p k * ((Classical.choose (ex w k)) * (Classical.choose (ex w k)) * (Classical.choose (ex w k)))) j) := by
      intro j
      induction j with
      | zero => intro _; rfl
      | succ j ih =>
        intro hj
        have q := hsp j hw (by omega)
        have hp := nS_ge (f := p) 8 (show j < 8 by omega)
        have hk : kCube (kRoot (rEnd R j (nI w))) = lN (Classical.choose (ex w j) * Classical.choose (ex w j) * Classical.choose (ex w j)) := by
          refine (congrArg kCube q.1).trans ?_
          unfold kCube
          rw [nI_l (by have := q.2.2.2; omega), lN_mul, lN_mul]
        show aRain R (nI w) j + (R (23 + 3 * j)).toInt64 * kCube (kRoot (rEnd R j (nI w))) = _
        rw [hk, ih (by omega), (hb j (by omega)).1, nI_l (by omega), lN_mul, lN_add]
        rfl
    exact key 8 (Nat.le_refl 8)
  · obtain ⟨e1, e2, e3, e4, -⟩ := bE h1 h2 hk
    have s0 := Classical.choose_spec (ex 0 k) (by decide) hk
    have s1 := Classical.choose_spec (ex 1 k) (by decide) hk
    have s2 := Classical.choose_spec (ex 2 k) (by decide) hk
    have v01 : bEnd b 0 k ≤ bEnd b 1 k := by simp only [bEnd, if_true, show ¬ (1 = 0) by decide, if_false]; omega
    have v12 : bEnd b 1 k ≤ bEnd b 2 k := by simp only [bEnd, if_true, show ¬ (1 = 0) by decide, show ¬ (2 = 0) by decide, show ¬ (2 = 1) by decide, if_false]; omega
    dsimp only
    generalize Classical.choose (ex 0 k) = x0 at *
    generalize Classical.choose (ex 1 k) = x1 at *
    generalize Classical.choose (ex 2 k) = x2 at *
    have le : ∀ a b u v : Nat, a * a ≤ u → u ≤ v → v < (b + 1) * (b + 1) → a ≤ b := fun a b u v g1 g2 g3 => by
      refine Nat.le_of_not_lt fun q => ?_
      have := Nat.mul_le_mul (show b + 1 ≤ a by omega) (show b + 1 ≤ a by omega)
      omega
    have l01 := le _ _ _ _ s0.2.1 v01 s1.2.2.1
    have l12 := le _ _ _ _ s1.2.1 v12 s2.2.2.1
    exact ⟨Nat.mul_le_mul (Nat.mul_le_mul l01 l01) l01, Nat.mul_le_mul (Nat.mul_le_mul l12 l12) l12, Nat.mul_le_mul (Nat.mul_le_mul s2.2.2.2 s2.2.2.2) s2.2.2.2⟩
theorem nS_bnd {p g : Nat → Nat} {G : Nat} : ∀ n, (∀ k, k < n → g k ≤ G) → nS (fun k => p k * g k) n ≤ nS p n * G
  | 0, _ => by simp [nS]
  | n + 1, h => by
    unfold nS
    rw [Nat.add_mul]
    exact Nat.add_le_add (nS_bnd n (fun k hk => h k (by omega))) (Nat.mul_le_mul_left _ (h n (by omega)))
/-- more rain by greater ends -/
theorem fRain' (hb : ∀ k, k < 8 → R (23 + 3 * k) = nI (p k) ∧ R (24 + 3 * k) = nI (f k) ∧ R (25 + 3 * k) = nI (m k) ∧ f k ≤ p k ∧ p k ≤ m k) (h1 : ∀ k, k < 7 → R (16 + k) = nI (b k) ∧ 1 ≤ b k ∧ b k ≤ 5000) (h2 : ∀ k, k < 6 → b k < b (k + 1)) (hs : nS p 8 < 2 ^ 30) : ¬ lRain R 1 < lRain R 0 ∧ ¬ lRain R 2 < lRain R 1 := by
  obtain ⟨g, e, le⟩ := fRain hb h1 h2 hs
  have b2 := nS_bnd (p := p) (g := g 2) (G := 2048383) 8 (fun k hk => (le k hk).2.2)
  have m01 : nS (fun k => p k * g 0 k) 8 ≤ nS (fun k => p k * g 1 k) 8 := nS_mono 8 fun k hk => Nat.mul_le_mul_left _ (le k hk).1
  have m12 : nS (fun k => p k * g 1 k) 8 ≤ nS (fun k => p k * g 2 k) 8 := nS_mono 8 fun k hk => Nat.mul_le_mul_left _ (le k hk).2.1
  rw [show (0 : Int32) = nI 0 from rfl, show (1 : Int32) = nI 1 from rfl, show (2 : Int32) = nI 2 from rfl, e 0 (by decide), e 1 (by decide), e 2 (by decide)]
  exact ⟨Int64.not_lt.mpr (lN_leB (by omega) m01), Int64.not_lt.mpr (lN_leB (by omega) m12)⟩
end P80b

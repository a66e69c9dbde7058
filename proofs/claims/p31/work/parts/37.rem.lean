/-! ===== the whole object: longest, pattern, rain; what is remembered ===== -/
def nLong (b : Nat → Bool) : Nat → Nat × Nat
  | 0 => (0, 0)
  | i + 1 => (if (nLong b i).1 < (if b i = true then (nLong b i).2 + 1 else 0) then (if b i = true then (nLong b i).2 + 1 else 0) else (nLong b i).1, if b i = true then (nLong b i).2 + 1 else 0)
theorem nLong_le (b : Nat → Bool) : ∀ n, (nLong b n).1 ≤ n ∧ (nLong b n).2 ≤ n
  | 0 => ⟨Nat.le_refl _, Nat.le_refl _⟩
  | n + 1 => by
    have := nLong_le b n
    simp only [nLong]
    constructor <;> (repeat' split) <;> omega
theorem kLong_n (f : Nat → Int32) (v : Int32) : ∀ n, n < 1000 → kLong f v n = (nI (nLong (fun i => decide (f i = v)) n).1, nI (nLong (fun i => decide (f i = v)) n).2)
  | 0, _ => rfl
  | n + 1, h => by
    have ih := kLong_n f v n (by omega)
    have le := nLong_le (fun i => decide (f i = v)) n
    simp only [kLong, nLong, ih, decide_eq_true_eq]
    generalize (nLong (fun i => decide (f i = v)) n).1 = a at *
    generalize (nLong (fun i => decide (f i = v)) n).2 = c at *
    by_cases e : f n = v
    · simp only [e, if_true]
      have q : nI a < nI (c + 1) ↔ a < c + 1 := nI_ltI (by omega) (by omega)
      simp only [nI_1, q]
      split <;> rfl
    · simp only [e, if_false]
      have q : nI a < 0 ↔ a < 0 := nI_ltI (b := 0) (by omega) (by omega)
      simp only [q]
      split <;> rfl
theorem nLong_2 (b : Nat → Bool) (n : Nat) : (nLong b (n + 1)).2 = if b n = true then (nLong b n).2 + 1 else 0 := rfl
theorem nLong_1 (b : Nat → Bool) (n : Nat) : (nLong b (n + 1)).1 = max (nLong b n).1 (nLong b (n + 1)).2 := by
  rw [nLong_2]; simp only [nLong]
  generalize (if b n = true then (nLong b n).2 + 1 else 0) = r
  split <;> omega
/-- there is a run as long as told -/
theorem nLong_has (b : Nat → Bool) : ∀ n, (∃ i, i + (nLong b n).1 ≤ n ∧ ∀ j, i ≤ j → j < i + (nLong b n).1 → b j = true) ∧ (∀ j, n - (nLong b n).2 ≤ j → j < n → b j = true)
  | 0 => ⟨⟨0, Nat.le_refl _, fun j _ h => absurd h (by simp [nLong])⟩, fun j _ h => absurd h (by omega)⟩
  | n + 1 => by
    obtain ⟨⟨i, h1, h2⟩, h3⟩ := nLong_has b n
    have le := nLong_le b (n + 1)
    have key : ∀ j, n + 1 - (nLong b (n + 1)).2 ≤ j → j < n + 1 → b j = true := by
      intro j j1 j2
      rw [nLong_2] at j1
      by_cases e : b n = true
      · rw [if_pos e] at j1
        by_cases z : j = n
        · rw [z]; exact e
        · exact h3 j (by omega) (by omega)
      · rw [if_neg e] at j1; omega
    refine ⟨?_, key⟩
    rw [nLong_1] at le ⊢
    by_cases c : (nLong b n).1 < (nLong b (n + 1)).2
    · rw [Nat.max_eq_right (by omega)] at le ⊢
      exact ⟨n + 1 - (nLong b (n + 1)).2, by omega, fun j j1 j2 => key j j1 (by omega)⟩
    · rw [Nat.max_eq_left (by omega)]
      exact ⟨i, by omega, h2⟩
/-- no run is longer -/
theorem nLong_max (b : Nat → Bool) : ∀ n, (∀ i m, i + m ≤ n → (∀ j, i ≤ j → j < i + m → b j = true) → m ≤ (nLong b n).1) ∧ (∀ m, m ≤ n → (∀ j, n - m ≤ j → j < n → b j = true) → m ≤ (nLong b n).2)
  | 0 => ⟨fun i m h _ => by omega, fun m h _ => by omega⟩
  | n + 1 => by
    obtain ⟨h1, h2⟩ := nLong_max b n
    have run : ∀ m, m ≤ n + 1 → (∀ j, n + 1 - m ≤ j → j < n + 1 → b j = true) → m ≤ (nLong b (n + 1)).2 := by
      intro m m1 m2
      by_cases z : m = 0
      · omega
      · rw [nLong_2, if_pos (m2 n (by omega) (by omega))]
        have := h2 (m - 1) (by omega) (fun j j1 j2 => m2 j (by omega) (by omega))
        omega
    refine ⟨fun i m m1 m2 => ?_, run⟩
    rw [nLong_1]
    by_cases z : i + m ≤ n
    · have := h1 i m z m2
      omega
    · have := run m (by omega) (fun j j1 j2 => m2 j (by omega) (by omega))
      omega
theorem nLong_rev (b : Nat → Bool) (n : Nat) : (nLong (fun i => b (n - 1 - i)) n).1 = (nLong b n).1 := by
  have h1 := (nLong_has (fun i => b (n - 1 - i)) n).1
  have h2 := (nLong_has b n).1
  refine Nat.le_antisymm ?_ ?_
  · obtain ⟨i, a1, a2⟩ := h1
    refine (nLong_max b n).1 (n - (i + (nLong (fun i => b (n - 1 - i)) n).1)) _ (by omega) fun j j1 j2 => ?_
    have := a2 (n - 1 - j) (by omega) (by omega)
    rwa [show n - 1 - (n - 1 - j) = j by omega] at this
  · obtain ⟨i, a1, a2⟩ := h2
    refine (nLong_max (fun i => b (n - 1 - i)) n).1 (n - (i + (nLong b n).1)) _ (by omega) fun j j1 j2 => ?_
    exact a2 (n - 1 - j) (by omega) (by omega)
theorem nLong_congr {b b' : Nat → Bool} : ∀ n, (∀ i, i < n → b i = b' i) → nLong b n = nLong b' n
  | 0, _ => rfl
  | n + 1, h => by unfold nLong; rw [nLong_congr n (fun i hi => h i (by omega)), h n (by omega)]
def aLong (R : xRow) (lf : Nat) (v : Int32) : Int32 := nI (nLong (fun i => decide (R (48 + i) = v)) lf).1
def aPat (R : xRow) (lf m : Nat) (d : Int32) : Int32 := kSum (fun t => bI (kStB (fun j => R (48 + (lf - 1 - j))) t d m = true)) (lf + 1 - m)
def rEnd (R : xRow) (k : Nat) (w : Int32) : Int32 := if w = 0 then rLow R k else if w = 1 then (rLow R k + rHigh R k) / 2 else rHigh R k
def aRain (R : xRow) (w : Int32) : Nat → Int64
  | 0 => 0
  | k + 1 => aRain R w k + (R (23 + 3 * k)).toInt64 * kCube (kRoot (rEnd R k w))
def kdPat (n d : Int32) : Nat := if n < 1 ∨ 8 < n then 1 else if kAfB d n.toNatClampNeg = true ∧ ¬ d < 0 ∧ kDg d n.toNatClampNeg = 0 then 0 else 1
theorem kStB_congr {f g : Nat → Int32} {t : Nat} {d : Int32} : ∀ m, (∀ i, i < m → f (t + i) = g (t + i)) → kStB f t d m = kStB g t d m
  | 0, _ => rfl
  | m + 1, h => by unfold kStB; rw [kStB_congr m (fun i hi => h i (by omega)), h m (by omega)]
section P37
variable {M M' : xMem} {L L' : xLng} {o s p a : Nat} {R R' : xRow} {T B tl c w lf v lr : Nat} {S : xSp}
theorem AlA.long (h : AlA M L a R w lf v lr) (z : Int32) : (kLong (kLf M (a + 2) w 60) z lf).1 = aLong R lf z := by
  have l60 : lf ≤ 60 := h.1.1.2.2.2
  rw [kLong_n _ _ _ (by omega)]
  unfold aLong
  rw [← nLong_rev (fun i => decide (R (48 + i) = z)) lf]
  rw [nLong_congr lf (fun i hi => ?_)]
  have q : kLf M (a + 2) w 60 i = R (48 + (lf - 1 - i)) := h.2.2.2.2.2.2.1 i hi
  simp only [q]
theorem AlA.pat (h : AlA M L a R w lf v lr) (m : Nat) (d : Int32) : kSum (fun t => bI (kStB (kLf M (a + 2) w 60) t d m = true)) (lf + 1 - m) = aPat R lf m d :=
  kSum_congr _ fun t ht => by rw [kStB_congr (g := fun j => R (48 + (lf - 1 - j))) m (fun i hi => h.2.2.2.2.2.2.1 (t + i) (by omega))]
theorem AlP.rain (h : AlP M p R) (w : Int32) : ∀ k, k ≤ 8 → kRain M p w k = aRain R w k
  | 0, _ => rfl
  | k + 1, hk => by
    unfold kRain aRain kEnd rEnd
    rw [h.rain w k (by omega), h.low (by omega), h.high (by omega), h.2.2.2.2.2.2.2.2.2.2.1 k (by omega)]
def Fr (o : Nat) (M : xMem) (L : xLng) (M' : xMem) (L' : xLng) : Prop := ∀ k, (k < o ∨ o + 288 < k) → (∀ i, M' k i = M k i) ∧ ∀ i, L' k i = L k i
theorem Fr.trans {M'' : xMem} {L'' : xLng} (h : Fr o M L M' L') (g : Fr o M' L' M'' L'') : Fr o M L M'' L'' := fun k hk => ⟨fun i => ((g k hk).1 i).trans ((h k hk).1 i), fun i => ((g k hk).2 i).trans ((h k hk).2 i)⟩
/-- a call that changes what is told -/
def xG (k : Nat) (A : Option Value) (S' : xSp) (o : Nat) (x : Bool) (n : Nat) (K : xKnd) (G : xRef) (M : xMem) (L : xLng) : xP := fun r q' => k = 0 ∧ r = A ∧ ∃ M' L', q' = (x, n, K, G, M', L') ∧ CRel M' L' o S' ∧ Fr o M L M' L'
theorem AlE.congr (h : AlE M L s R) (hM : ∀ k i, s + 1 ≤ k → k ≤ s + 14 → M' k i = M k i) (hL : L' (s + 7) 1 = L (s + 7) 1) : AlE M' L' s R := by
  obtain ⟨w, lf, v, lr, q⟩ := h
  exact ⟨w, lf, v, lr, q.congr hM hL (fun _ _ => rfl)⟩
theorem kMi_lt {nx i : Nat} (h : nx < 14) (hi : i < 14) : kMi nx i < 14 := by unfold kMi; split <;> omega
/-- the present row is another -/
theorem CRel.now (h : CRel M L o S) (hM : ∀ k i, (k ≤ o + 2 ∨ o + 18 ≤ k) → k ≤ o + 288 → o ≤ k → M' k i = M k i) (hL : ∀ k, (k ≤ o + 2 ∨ o + 18 ≤ k) → L' k 1 = L k 1) (hA : AlE M' L' (o + 3) R') : CRel M' L' o (S.1, S.2.1, R', S.2.2.2) := by
  obtain ⟨c0, c1, c2, c3, ⟨nx, n1, n2, n3, n4, n5⟩, c5, c6, c7, c8⟩ := h
  refine ⟨?_, ?_, hA, ?_, ⟨nx, n1, ?_, ?_, n4, fun i hi => ?_⟩, ?_, ?_, fun q => ?_, fun q => ?_⟩
  · unfold iTx; rw [hM _ _ (by omega) (by omega) (by omega)]; exact c0
  · intro i hi; rw [hM _ _ (by omega) (by omega) (by omega)]; exact c1 i hi
  · exact c3.congr (fun k i h1 h2 => hM _ _ (by omega) (by omega) (by omega)) (hL _ (by omega))
  · rw [hM _ _ (by omega) (by omega) (by omega)]; exact n2
  · rw [hM _ _ (by omega) (by omega) (by omega)]; exact n3
  · have := kMi_lt n1 (i := i) (Nat.lt_of_lt_of_le hi n4)
    exact (n5 i hi).congr (fun k i h1 h2 => hM _ _ (by omega) (by omega) (by omega)) (hL _ (by omega))
  · rw [hM _ _ (by omega) (by omega) (by omega)]; exact c5
  · rw [hM _ _ (by omega) (by omega) (by omega)]; exact c6
  · exact (c7 q).congr (fun k i h1 h2 => hM _ _ (by omega) (by omega) (by omega)) (hL _ (by omega))
  · exact (c8 q).congr (fun k i h1 h2 => hM _ _ (by omega) (by omega) (by omega)) (hL _ (by omega))
/-- only the trial changed -/
theorem CRel.scr (h : CRel M L o S) (hM : ∀ k i, (k ≤ o + 33 ∨ o + 48 ≤ k) → k ≤ o + 288 → o ≤ k → M' k i = M k i) (hL : ∀ k, (k ≤ o + 33 ∨ o + 48 ≤ k) → L' k 1 = L k 1) : CRel M' L' o S := by
  have hA : AlE M' L' (o + 3) S.2.2.1 := h.2.2.1.congr (fun k i h1 h2 => hM _ _ (by omega) (by omega) (by omega)) (hL _ (by omega))
  obtain ⟨c0, c1, c2, c3, ⟨nx, n1, n2, n3, n4, n5⟩, c5, c6, c7, c8⟩ := h
  refine ⟨?_, ?_, hA, ?_, ⟨nx, n1, ?_, ?_, n4, fun i hi => ?_⟩, ?_, ?_, fun q => ?_, fun q => ?_⟩
  · unfold iTx; rw [hM _ _ (by omega) (by omega) (by omega)]; exact c0
  · intro i hi; rw [hM _ _ (by omega) (by omega) (by omega)]; exact c1 i hi
  · exact c3.congr (fun k i h1 h2 => hM _ _ (by omega) (by omega) (by omega)) (hL _ (by omega))
  · rw [hM _ _ (by omega) (by omega) (by omega)]; exact n2
  · rw [hM _ _ (by omega) (by omega) (by omega)]; exact n3
  · have := kMi_lt n1 (i := i) (Nat.lt_of_lt_of_le hi n4)
    exact (n5 i hi).congr (fun k i h1 h2 => hM _ _ (by omega) (by omega) (by omega)) (hL _ (by omega))
  · rw [hM _ _ (by omega) (by omega) (by omega)]; exact c5
  · rw [hM _ _ (by omega) (by omega) (by omega)]; exact c6
  · exact (c7 q).congr (fun k i h1 h2 => hM _ _ (by omega) (by omega) (by omega)) (hL _ (by omega))
  · exact (c8 q).congr (fun k i h1 h2 => hM _ _ (by omega) (by omega) (by omega)) (hL _ (by omega))
def sPush (S : xSp) : xSp := (S.1, S.2.1, S.2.2.1, min (S.2.2.2.1 + 1) 14, (fun i => if i = 0 then S.2.2.1 else S.2.2.2.2.1 (i - 1)), S.2.2.2.2.2)
def sNow (S : xSp) (R : xRow) : xSp := (S.1, S.2.1, R, S.2.2.2)
theorem WFS.push (h : WFS S T B) : WFS (sPush S) T B := by
  obtain ⟨h1, h2, h3⟩ := h
  refine ⟨h1, fun i hi => ?_, h3⟩
  have hi' : i < min (S.2.2.2.1 + 1) 14 := hi
  show WFr (if i = 0 then S.2.2.1 else S.2.2.2.2.1 (i - 1)) T B
  split
  · exact h1
  · exact h2 _ (by omega)
theorem WFS.mono (h : WFS S T B) {T' B' : Nat} (h1 : T ≤ T') (h2 : B ≤ B') : WFS S T' B' := ⟨h.1.mono h1 h2, fun i hi => (h.2.1 i hi).mono h1 h2, fun q => (h.2.2.1 q).mono h1 h2, fun q => (h.2.2.2 q).mono h1 h2⟩
theorem WFS.now {R' : xRow} (h : WFS S T B) (hR : WFr R' T B) : WFS (sNow S R') T B := ⟨hR, h.2⟩
theorem kMi_0 {nx : Nat} (h : nx < 14) : kMi (kNx nx 14) 0 = nx := by unfold kMi kNx; split <;> split <;> omega
theorem kMi_S {nx i : Nat} (h : nx < 14) (hi : i + 1 < 14) : kMi (kNx nx 14) (i + 1) = kMi nx i := by unfold kMi kNx; (repeat' split) <;> omega
theorem kMi_ne {nx i : Nat} (h : nx < 14) (hi : i + 1 < 14) : kMi nx i ≠ nx := by unfold kMi; split <;> omega
theorem kAcCpL_k {L : xLng} {a b k i : Nat} (h : k ≠ b) : kAcCpL L a b k i = L k i := by unfold kAcCpL; rw [xup_k h]
theorem AlE.cp (h : AlE M L a R) {b : Nat} (hab : a + 14 < b ∨ b + 14 < a) : AlE (kStCp M a b) (kAcCpL L (a + 7) (b + 7)) b R := by
  obtain ⟨w, lf, v, lr, q⟩ := h
  exact ⟨w, lf, v, lr, q.copy hab⟩
theorem CRel.rem (h : CRel M L o S) {nx : Nat} (n1 : nx < 14) (n2 : M o 5 = nI nx) : CRel (xup (xup (kStCp M (o + 3) (o + 79 + 15 * nx)) o 5 (nI (kNx nx 14))) o 6 (nI (min (S.2.2.2.1 + 1) 14))) (kAcCpL L (o + 3 + 7) (o + 79 + 15 * nx + 7)) o (sPush S) := by
  have cp : AlE (kStCp M (o + 3) (o + 79 + 15 * nx)) (kAcCpL L (o + 3 + 7) (o + 79 + 15 * nx + 7)) (o + 79 + 15 * nx) S.2.2.1 := h.2.2.1.cp (by omega)
  generalize hM1 : kStCp M (o + 3) (o + 79 + 15 * nx) = M1 at *
  generalize hL1 : kAcCpL L (o + 3 + 7) (o + 79 + 15 * nx + 7) = L1 at *
  have m1 : ∀ k i, (k ≤ o + 79 + 15 * nx ∨ o + 79 + 15 * nx + 14 < k) → M1 k i = M k i := fun k i q => by rw [← hM1]; exact kStCp_k q
  have l1 : ∀ k i, k ≠ o + 79 + 15 * nx + 7 → L1 k i = L k i := fun k i q => by rw [← hL1]; exact kAcCpL_k q
  generalize hM2 : xup (xup M1 o 5 (nI (kNx nx 14))) o 6 (nI (min (S.2.2.2.1 + 1) 14)) = M2
  have m2 : ∀ k i, k ≠ o → M2 k i = M1 k i := fun k i q => by rw [← hM2, xup_k q, xup_k q]
  have m0 : ∀ i, i ≠ 5 → i ≠ 6 → M2 o i = M o i := fun i q1 q2 => by rw [← hM2, xup_i q2, xup_i q1, m1 _ _ (by omega)]
  obtain ⟨c0, c1, c2, c3, ⟨nx', n1', n2', n3, n4, n5⟩, c5, c6, c7, c8⟩ := h
  have en : nx' = nx := (nI_eq (by omega) (by omega)).mp (n2'.symm.trans n2)
  subst en
  have al : ∀ s R, (s + 14 ≤ o + 79 + 15 * nx' ∨ o + 79 + 15 * nx' + 14 ≤ s) → o ≤ s → AlE M L s R → AlE M2 L1 s R := fun s R q1 q2 q => q.congr (fun k i h1 h2 => by rw [m2 _ _ (by omega), m1 _ _ (by omega)]) (l1 _ _ (by omega))
  refine ⟨?_, ?_, al _ _ (by omega) (by omega) c2, al _ _ (by omega) (by omega) c3, ⟨kNx nx' 14, kNx_lt n1, ?_, ?_, Nat.min_le_right _ _, fun i hi => ?_⟩, ?_, ?_, fun q => al _ _ (by omega) (by omega) (c7 q), fun q => al _ _ (by omega) (by omega) (c8 q)⟩
  · unfold iTx; rw [m2 _ _ (by omega), m1 _ _ (by omega)]; exact c0
  · intro i hi; rw [m2 _ _ (by omega), m1 _ _ (by omega)]; exact c1 i hi
  · rw [← hM2, xup_i (by decide), xup_s]
  · rw [← hM2, xup_s]; rfl
  · have hi' : i < min (S.2.2.2.1 + 1) 14 := hi
    show AlE M2 L1 (o + 79 + 15 * kMi (kNx nx' 14) i) (if i = 0 then S.2.2.1 else S.2.2.2.2.1 (i - 1))
    by_cases z : i = 0
    · subst z
      rw [kMi_0 n1, if_pos rfl]
      exact cp.congr (fun k i h1 h2 => m2 _ _ (by omega)) rfl
    · obtain ⟨j, rfl⟩ : ∃ j, i = j + 1 := ⟨i - 1, by omega⟩
      have e1 := kMi_ne n1 (i := j) (by omega)
      have e2 := kMi_lt n1 (i := j) (by omega)
      rw [kMi_S n1 (by omega), if_neg z]
      exact al _ _ (by omega) (by omega) (n5 j (by omega))
  · rw [m0 _ (by decide) (by decide)]; exact c5
  · rw [m0 _ (by decide) (by decide)]; exact c6
theorem CRel.ipl (h : CRel M L o S) (hw : WFS S T B) : iPl M (o + 3 + 1) := by
  obtain ⟨-, -, ⟨w, lf, v, lr, q⟩, -⟩ := h
  exact q.ipl hw.1
end P37
section C37
variable {E : xEnv} {l : Launch} {x : Bool} {n : Nat} {K : xKnd} {G : xRef} {M : xMem} {L : xLng} {o T B : Nat} {S : xSp}
theorem c_X5_longest (hl9 : l.stackTraces = false) (h : rX n K G o) (hc : CRel M L o S) (i : Int32) : Con E l Y_X5_longest [.ref o, .int i] (x, n, K, G, M, L) (xW (kdO i 0 3) (.int (aLong S.2.2.1 (S.2.2.1 47).toNatClampNeg i)) (x, n, K, G, M, L)) (xC (kdO i 0 3) nsA (x, n, K, G, M, L)) := by
  obtain ⟨h0, -, -, g1, ⟨hs0, gp, hp, ga, ha⟩, -⟩ := h
  obtain ⟨-, -, ⟨w9, lf, v, lr, hA⟩, -⟩ := hc
  obtain ⟨ha0, -, -, gf, hf, -⟩ := ha
  have hf0 := hf.1
  have i1 := hA.2.1.1
  have e47 := hA.2.2.2.2.2.1
  have l60 : lf ≤ 60 := i1.2.2.2
  refine Con.mk 0 mp_X5_longest rfl (ls := [some (.ref o), some (.int i)]) rfl (Nat.le_of_ble_eq_true rfl) ?_
  refine V_ild1 dX5_longest_0 ?_
  refine V_iconst (v := 0) dX5_longest_1 (by decide) ?_
  refine V_iconst (v := 3) dX5_longest_2 (by decide) ?_
  refine V_cs3R lk_X5_53 cc_X5_isOutside dX5_longest_3 (c_X5_isOutside _ _ _) ft_X5_longest_X5_isOutside rfl rfl (Nat.le_of_ble_eq_true rfl) ?_
  refine V_if_eq (tgt := 19) dX5_longest_6 (by decide) (fun h6 => ?_) (fun h6 => ?_)
  · rw [bI0] at h6
    refine V_ald0 dX5_longest_19 ?_
    refine V_getR fd_X5_19 dX5_longest_20 (by assumption) (by assumption) rfl ?_
    refine V_getR fd_X5_100 dX5_longest_23 (by assumption) (by assumption) rfl ?_
    refine V_getR fd_X5_142 dX5_longest_26 (by assumption) (by assumption) rfl ?_
    refine V_ild1 dX5_longest_29 ?_
    refine V_cv1R lk_X5_192 cc_X1_longestRunOf dX5_longest_30 (by assumption) (c_X1_longestRunOf hf i1 i) ft_X5_longest_X1_longestRunOf rfl rfl (Nat.le_of_ble_eq_true rfl) ?_
    exact V_iret rfl dX5_longest_33 (by decide) (by decide) ⟨by unfold kdO; rw [if_neg h6], by rw [hA.2.long, e47, nI_clamp (by omega)], rfl⟩
  · rw [bI0, Decidable.not_not] at h6
    exact V_throw th_X5_190 hl9 rfl dX5_longest_9 dX5_longest_12 dX5_longest_13 dX5_longest_15 dX5_longest_18 (by decide) (by decide) (by decide) (by decide) (xC_mk 0 (by unfold kdO; rw [if_pos h6]) rfl)
theorem c_X5_pattern (hl9 : l.stackTraces = false) (h : rX n K G o) (hc : CRel M L o S) (m d : Int32) : Con E l Y_X5_pattern [.ref o, .int m, .int d] (x, n, K, G, M, L) (xW (kdPat m d) (.int (aPat S.2.2.1 (S.2.2.1 47).toNatClampNeg m.toNatClampNeg d)) (x, n, K, G, M, L)) (xC (kdPat m d) nsA (x, n, K, G, M, L)) := by
  obtain ⟨h0, -, -, g1, ⟨hs0, gp, hp, ga, ha⟩, -⟩ := h
  obtain ⟨-, -, ⟨w9, lf, v, lr, hA⟩, -⟩ := hc
  obtain ⟨ha0, -, -, gf, hf, -⟩ := ha
  have hf0 := hf.1
  have i1 := hA.2.1.1
  have e47 := hA.2.2.2.2.2.1
  have l60 : lf ≤ 60 := i1.2.2.2
  refine Con.mk 0 mp_X5_pattern rfl (ls := [some (.ref o), some (.int m), some (.int d)]) rfl (Nat.le_of_ble_eq_true rfl) ?_
  refine V_ild1 dX5_pattern_0 ?_
  refine V_iconst (v := 1) dX5_pattern_1 (by decide) ?_
  refine V_bipush (v := 8) dX5_pattern_2 (by decide) ?_
  refine V_cs3R lk_X5_53 cc_X5_isOutside dX5_pattern_4 (c_X5_isOutside _ _ _) ft_X5_pattern_X5_isOutside rfl rfl (Nat.le_of_ble_eq_true rfl) ?_
  refine V_if_eq (tgt := 20) dX5_pattern_7 (by decide) (fun h7 => ?_) (fun h7 => ?_)
  · rw [bI0] at h7
    have h7' := h7
    rw [not_or] at h7'
    obtain ⟨j, hj, rfl⟩ := xIdx (N := 8) (by decide) (fun q => h7'.1 (Int32.lt_trans q (by decide))) h7'.2
    have ej : (nI j).toNatClampNeg = j := nI_clamp (by omega)
    refine V_ild1 dX5_pattern_20 ?_
    refine V_ild2 dX5_pattern_21 ?_
    refine V_cs2R lk_X5_197 cc_X5_areFates dX5_pattern_22 (c_X5_areFates (m := j) (by omega) d) ft_X5_pattern_X5_areFates rfl rfl (Nat.le_of_ble_eq_true rfl) ?_
    refine V_if_ne (tgt := 38) dX5_pattern_25 (by decide) (fun h25 => ?_) (fun h25 => ?_)
    · rw [bI0, Decidable.not_not] at h25
      refine V_ald0 dX5_pattern_38 ?_
      refine V_getR fd_X5_19 dX5_pattern_39 (by assumption) (by assumption) rfl ?_
      refine V_getR fd_X5_100 dX5_pattern_42 (by assumption) (by assumption) rfl ?_
      refine V_getR fd_X5_142 dX5_pattern_45 (by assumption) (by assumption) rfl ?_
      refine V_ild1 dX5_pattern_48 ?_
      refine V_ild2 dX5_pattern_49 ?_
      refine V_cv2R lk_X5_203 cc_X1_placesOf dX5_pattern_50 (by assumption) (c_X1_placesOf hf i1 (m := j) d (by omega)) ft_X5_pattern_X1_placesOf rfl rfl (Nat.le_of_ble_eq_true rfl) ?_
      exact V_iret rfl dX5_pattern_53 (by decide) (by decide) ⟨by unfold kdPat; rw [if_neg h7, ej, if_pos h25], by rw [hA.2.pat, e47, nI_clamp (by omega), ej], rfl⟩
    · rw [bI0] at h25
      exact V_throw th_X5_201 hl9 rfl dX5_pattern_28 dX5_pattern_31 dX5_pattern_32 dX5_pattern_34 dX5_pattern_37 (by decide) (by decide) (by decide) (by decide) (xC_mk 0 (by unfold kdPat; rw [if_neg h7, ej, if_neg h25]) rfl)
  · rw [bI0, Decidable.not_not] at h7
    exact V_throw th_X5_195 hl9 rfl dX5_pattern_10 dX5_pattern_13 dX5_pattern_14 dX5_pattern_16 dX5_pattern_19 (by decide) (by decide) (by decide) (by decide) (xC_mk 0 (by unfold kdPat; rw [if_pos h7]) rfl)
theorem c_X5_rain (hl9 : l.stackTraces = false) (h : rX n K G o) (hc : CRel M L o S) (i : Int32) : Con E l Y_X5_rain [.ref o, .int i] (x, n, K, G, M, L) (xW (kdO i 0 2) (.long (aRain S.2.2.1 i 8)) (x, n, K, G, M, L)) (xC (kdO i 0 2) nsA (x, n, K, G, M, L)) := by
  obtain ⟨h0, -, -, g1, ⟨hs0, gp, hp, ga, ha⟩, -⟩ := h
  obtain ⟨-, -, ⟨w9, lf, v, lr, hA⟩, -⟩ := hc
  have hp0 := hp.1
  refine Con.mk 0 mp_X5_rain rfl (ls := [some (.ref o), some (.int i)]) rfl (Nat.le_of_ble_eq_true rfl) ?_
  refine V_ild1 dX5_rain_0 ?_
  refine V_iconst (v := 0) dX5_rain_1 (by decide) ?_
  refine V_iconst (v := 2) dX5_rain_2 (by decide) ?_
  refine V_cs3R lk_X5_53 cc_X5_isOutside dX5_rain_3 (c_X5_isOutside _ _ _) ft_X5_rain_X5_isOutside rfl rfl (Nat.le_of_ble_eq_true rfl) ?_
  refine V_if_eq (tgt := 19) dX5_rain_6 (by decide) (fun h6 => ?_) (fun h6 => ?_)
  · rw [bI0] at h6
    refine V_ald0 dX5_rain_19 ?_
    refine V_getR fd_X5_19 dX5_rain_20 (by assumption) (by assumption) rfl ?_
    refine V_getR fd_X5_109 dX5_rain_23 (by assumption) (by assumption) rfl ?_
    refine V_ild1 dX5_rain_26 ?_
    refine V_cv1R lk_X5_209 cc_X2_reckonedRain dX5_rain_27 (by assumption) (c_X2_reckonedRain hp i) ft_X5_rain_X2_reckonedRain rfl rfl (Nat.le_of_ble_eq_true rfl) ?_
    exact V_lret rfl dX5_rain_30 (by decide) (by decide) ⟨by unfold kdO; rw [if_neg h6], by rw [hA.1.rain i 8 (Nat.le_refl _)], rfl⟩
  · rw [bI0, Decidable.not_not] at h6
    exact V_throw th_X5_207 hl9 rfl dX5_rain_9 dX5_rain_12 dX5_rain_13 dX5_rain_15 dX5_rain_18 (by decide) (by decide) (by decide) (by decide) (xC_mk 0 (by unfold kdO; rw [if_pos h6]) rfl)
theorem c_X5_trueRain (h : rX n K G o) (hc : CRel M L o S) : Con E l Y_X5_trueRain [.ref o] (x, n, K, G, M, L) (xR (some (.long (S.2.2.1 190).toInt64)) (x, n, K, G, M, L)) xF := by
  obtain ⟨h0, -, -, g1, ⟨hs0, gp, hp, ga, ha⟩, -⟩ := h
  obtain ⟨-, -, ⟨w9, lf, v, lr, hA⟩, -⟩ := hc
  have ha0 := ha.1
  refine Con.mk 0 mp_X5_trueRain rfl (ls := [some (.ref o)]) rfl (Nat.le_of_ble_eq_true rfl) ?_
  refine V_ald0 dX5_trueRain_0 ?_
  refine V_getR fd_X5_19 dX5_trueRain_1 (by assumption) (by assumption) rfl ?_
  refine V_getR fd_X5_100 dX5_trueRain_4 (by assumption) (by assumption) rfl ?_
  refine V_getL fd_X5_213 dX5_trueRain_7 (by assumption) rfl ?_
  exact V_lret rfl dX5_trueRain_10 (by decide) (by decide) ⟨by rw [hA.2.2.2.2.1], rfl⟩
theorem c_X5_remember (h : rX n K G o) (hc : CRel M L o S) (hw : WFS S T B) : Con E l Y_X5_remember [.ref o] (x, n, K, G, M, L) (xG 0 none (sPush S) o x n K G M L) xF := by
  have hr := h
  obtain ⟨h0, -, -, g1, h1, -, -, -, -, g4, h4, hm, -⟩ := h
  have ip := hc.ipl hw
  have hc0 := hc
  obtain ⟨-, -, -, -, ⟨nx, n1, n2, n3, n4, -⟩, -⟩ := hc
  obtain ⟨g5, h5⟩ := hm nx n1
  have h50 := h5.1
  have e5 : kStCp M (o + 3) (o + 79 + 15 * nx) o 5 = nI nx := by rw [kStCp_k (by omega)]; exact n2
  have e6 : ∀ y, xup (kStCp M (o + 3) (o + 79 + 15 * nx)) o 5 y o 6 = nI S.2.2.2.1 := fun y => by rw [xup_i (by decide), kStCp_k (by omega)]; exact n3
  have km : (if (14 : Int32) < nI S.2.2.2.1 + 1 then 14 else nI S.2.2.2.1 + 1) = nI (min (S.2.2.2.1 + 1) 14) := kMin n4 (by decide)
  have fin : ∀ y, y = nI (kNx nx 14) → V E l Y_X5_remember (xQm E Y_X5_remember (xG 0 none (sPush S) o x n K G M L) xF) (x, n, K, G, kStCp M (o + 3) (o + 79 + 15 * nx), kAcCpL L (o + 3 + 7) (o + 79 + 15 * nx + 7)) (0, 0) 36 [some (.ref o)] [.int y, .ref o] := by
    intro y hy
    subst hy
    refine V_putI fw_X5_33 dX5_remember_36 (by assumption) rfl ?_
    refine V_ald0 dX5_remember_39 ?_
    refine V_ald0 dX5_remember_40 ?_
    refine V_getI fd_X5_37 dX5_remember_41 (by assumption) rfl ?_
    refine V_iconst (v := 1) dX5_remember_44 (by decide) ?_
    refine V_iadd dX5_remember_45 ?_
    refine V_bipush (v := 14) dX5_remember_46 (by decide) ?_
    refine V_min ml_X5_317 mst_min mo_3 mcd_min dX5_remember_48 (by decide) (by decide) (by decide) (by decide) (Nat.le_of_ble_eq_true rfl) ?_
    rw [e6, km]
    refine V_putI fw_X5_37 dX5_remember_51 (by assumption) rfl ?_
    exact V_vret rfl dX5_remember_54 (by decide) (by decide) ⟨rfl, rfl, _, _, rfl, hc0.rem n1 n2, fun k hk => ⟨fun i => by rw [xup_k (by omega), xup_k (by omega), kStCp_k (by omega)], fun i => kAcCpL_k (by omega)⟩⟩
  refine Con.mk 0 mp_X5_remember rfl (ls := [some (.ref o)]) rfl (Nat.le_of_ble_eq_true rfl) ?_
  refine V_ald0 dX5_remember_0 ?_
  refine V_getR fd_X5_29 dX5_remember_1 (by assumption) (by assumption) rfl ?_
  refine V_ald0 dX5_remember_4 ?_
  refine V_getI fd_X5_33 dX5_remember_5 (by assumption) rfl ?_
  refine V_aald (j := nx) dX5_remember_8 (by assumption) n2 n1 (by assumption) ?_
  refine V_ald0 dX5_remember_9 ?_
  refine V_getR fd_X5_19 dX5_remember_10 (by assumption) (by assumption) rfl ?_
  refine V_cv1U lk_X5_86 cc_X3_copyFrom dX5_remember_13 h50 (c_X3_copyFrom h1 h5 (by omega) ip) ft_X5_remember_X3_copyFrom rfl rfl (Nat.le_of_ble_eq_true rfl) ?_
  refine V_ald0 dX5_remember_16 ?_
  refine V_ald0 dX5_remember_17 ?_
  refine V_getI fd_X5_33 dX5_remember_18 (by assumption) rfl ?_
  refine V_bipush (v := 13) dX5_remember_21 (by decide) ?_
  refine V_icmp_ge (tgt := 35) dX5_remember_23 (by decide) (fun h23 => ?_) (fun h23 => ?_)
  · rw [e5] at h23
    refine V_iconst (v := 0) dX5_remember_35 (by decide) ?_
    first
    | exact fin _ (by unfold kNx; rw [if_pos (by have := (nI_ltI (a := nx) (b := 13) (by omega) (by decide)).mp h23; omega), e5, nI_1])
    | exact fin _ (by unfold kNx; rw [if_neg (fun q => h23 (nI_lt (b := 13) (by omega) (by decide)))]; rfl)
  · rw [e5] at h23
    refine V_ald0 dX5_remember_26 ?_
    refine V_getI fd_X5_33 dX5_remember_27 (by assumption) rfl ?_
    refine V_iconst (v := 1) dX5_remember_30 (by decide) ?_
    refine V_iadd dX5_remember_31 ?_
    refine V_goto (tgt := 36) dX5_remember_32 (by decide) ?_
    first
    | exact fin _ (by unfold kNx; rw [if_pos (by have := (nI_ltI (a := nx) (b := 13) (by omega) (by decide)).mp h23; omega), e5, nI_1])
    | exact fin _ (by unfold kNx; rw [if_neg (fun q => h23 (nI_lt (b := 13) (by omega) (by decide)))]; rfl)
end C37

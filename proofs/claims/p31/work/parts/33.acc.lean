/-! ===== the accounts of a state, and the rest of its row ===== -/
def AlA (M : xMem) (L : xLng) (a : Nat) (R : xRow) (w lf v lr : Nat) : Prop :=
  iAc M a w lf v lr ∧ (∀ f, f < 4 → M (a + 1) f = R (6 + f)) ∧ M a 2 = R 189 ∧ L a 1 = (R 190).toInt64 ∧ R 47 = nI lf ∧ R 108 = nI lr ∧
  (∀ j, j < lf → M (a + 3) (kRing w j 60) = R (48 + (lf - 1 - j))) ∧ (∀ j, j < lr → M (a + 5) (kRing v j 40) = R (110 + 2 * (lr - 1 - j)) ∧ M (a + 7) (kRing v j 40) = R (109 + 2 * (lr - 1 - j)))
def Al (M : xMem) (L : xLng) (s : Nat) (R : xRow) (w lf v lr : Nat) : Prop := AlP M (s + 1) R ∧ AlA M L (s + 7) R w lf v lr
section P33
variable {M M' : xMem} {L L' : xLng} {a s p w lf v lr : Nat} {R R' : xRow}
theorem kRing_0 {w N : Nat} : kRing w 0 N = w := by unfold kRing; rw [if_pos (Nat.zero_le _)]; omega
theorem kRing_S {w j N : Nat} (hw : w < N) (hj : j + 1 < N) : kRing (kNx w N) (j + 1) N = kRing w j N := by
  unfold kRing kNx
  split <;> split <;> (try split) <;> omega
theorem kRing_ne {w j N : Nat} (hw : w < N) (hj : j + 1 < N) : kRing w j N ≠ kNx w N := by
  unfold kRing kNx
  split <;> split <;> omega
theorem kPush_i {b N len : Nat} {x : Int32} (h : iLn M b N w len) (hN : 0 < N) : iLn (kPush M b N w len x) b N (kNx w N) (min (len + 1) N) := by
  refine ⟨?_, kNx_lt h.2.1, ?_, Nat.min_le_right _ _⟩
  · unfold kPush; rw [xup_i (by decide), xup_k (by omega), xup_s]
  · unfold kPush; rw [xup_s]
theorem kPush_r0 {b N len : Nat} {x : Int32} : kPush M b N w len x (b + 1) (kRing (kNx w N) 0 N) = x := by
  rw [kRing_0]; unfold kPush; rw [xup_k (by omega), xup_s]
theorem kPush_rS {b N len j : Nat} {x : Int32} (hw : w < N) (hj : j + 1 < N) : kPush M b N w len x (b + 1) (kRing (kNx w N) (j + 1) N) = M (b + 1) (kRing w j N) := by
  rw [kRing_S hw hj]; unfold kPush; rw [xup_k (by omega), xup_i (kRing_ne hw hj), xup_k (by omega)]
theorem rTr_out {n i : Nat} {f : Int32} (h : i < 47 ∨ 107 < i) (hn : n ≤ 60) : rTr R n f i = R i := by
  unfold rTr
  split
  · rw [upR_n (by omega), upR_n (by omega)]; unfold cpR; rw [if_neg (by omega)]
  · rw [upR_n (by omega), upR_n (by omega)]
theorem rTr_47 {n : Nat} {f : Int32} (hn : n ≤ 60) : rTr R n f 47 = nI (min (n + 1) 60) := by
  unfold rTr
  split
  next e => subst e; rw [upR_s]; rfl
  next e => rw [upR_s, Nat.min_eq_left (by omega)]
theorem rTr_r {n j : Nat} {f : Int32} (hn : n ≤ 60) (hj : j < min (n + 1) 60) : rTr R n f (48 + (min (n + 1) 60 - 1 - j)) = if j = 0 then f else R (48 + (n - 1 - (j - 1))) := by
  unfold rTr
  by_cases e : n = 60
  · subst e
    rw [if_pos rfl, upR_n (by omega)]
    by_cases z : j = 0
    · subst z; rw [if_pos rfl]; exact upR_s
    · rw [if_neg z, upR_n (by omega)]; unfold cpR; rw [if_pos (by omega)]; congr 1; omega
  · have q : min (n + 1) 60 = n + 1 := Nat.min_eq_left (by omega)
    rw [q] at hj ⊢
    rw [if_neg e, upR_n (by omega)]
    by_cases z : j = 0
    · subst z; rw [if_pos rfl]; exact upR_s
    · rw [if_neg z, upR_n (by omega)]; congr 1; omega
theorem rRc_out {n i : Nat} {z : Int32} (h : i < 108 ∨ 189 < i) (hn : n ≤ 40) : rRc R n z i = R i := by
  unfold rRc
  split
  · rw [upR_n (by omega), upR_n (by omega), upR_n (by omega), upR_n (by omega)]; unfold cpR; rw [if_neg (by omega)]
  · rw [upR_n (by omega), upR_n (by omega), upR_n (by omega), upR_n (by omega)]
theorem rRc_108 {n : Nat} {z : Int32} (hn : n ≤ 40) : rRc R n z 108 = nI (min (n + 1) 40) := by
  unfold rRc
  split
  next e => subst e; rw [upR_n (by decide), upR_s]; rfl
  next e => rw [upR_n (by decide), upR_s, Nat.min_eq_left (by omega)]
theorem rRc_189 {n : Nat} {z : Int32} : rRc R n z 189 = R 0 := by
  unfold rRc
  split <;> rw [upR_s]
theorem rRc_z {n j : Nat} {z : Int32} (hn : n ≤ 40) (hj : j < min (n + 1) 40) : rRc R n z (110 + 2 * (min (n + 1) 40 - 1 - j)) = if j = 0 then z else R (110 + 2 * (n - 1 - (j - 1))) := by
  unfold rRc
  by_cases e : n = 40
  · subst e
    rw [if_pos rfl, upR_n (by omega), upR_n (by omega)]
    by_cases q : j = 0
    · subst q; rw [if_pos rfl]; exact upR_s
    · rw [if_neg q, upR_n (by omega), upR_n (by omega)]; unfold cpR; rw [if_pos (by omega)]; congr 1; omega
  · have q : min (n + 1) 40 = n + 1 := Nat.min_eq_left (by omega)
    rw [q] at hj ⊢
    rw [if_neg e, upR_n (by omega), upR_n (by omega)]
    by_cases z : j = 0
    · subst z; rw [if_pos rfl]; exact upR_s
    · rw [if_neg z, upR_n (by omega), upR_n (by omega)]; congr 1; omega
theorem rRc_g {n j : Nat} {z : Int32} (hn : n ≤ 40) (hj : j < min (n + 1) 40) : rRc R n z (109 + 2 * (min (n + 1) 40 - 1 - j)) = if j = 0 then R 0 - R 189 else R (109 + 2 * (n - 1 - (j - 1))) := by
  unfold rRc
  by_cases e : n = 40
  · subst e
    rw [if_pos rfl, upR_n (by omega), upR_n (by omega), upR_n (by omega)]
    by_cases q : j = 0
    · subst q; rw [if_pos rfl]; exact upR_s
    · rw [if_neg q, upR_n (by omega)]; unfold cpR; rw [if_pos (by omega)]; congr 1; omega
  · have q : min (n + 1) 40 = n + 1 := Nat.min_eq_left (by omega)
    rw [q] at hj ⊢
    rw [if_neg e, upR_n (by omega), upR_n (by omega), upR_n (by omega)]
    by_cases z : j = 0
    · subst z; rw [if_pos rfl]; exact upR_s
    · rw [if_neg z, upR_n (by omega)]; congr 1; omega
theorem rMuch_o {x : Int32} {i : Nat} (h : i ≠ 12 ∧ i ≠ 15) : rMuch R x i = R i := by
  unfold rMuch; split
  · rw [upR_n h.1, upR_n h.2]
  · rw [upR_n h.1]
theorem rClose_o {i : Nat} (h : i ≠ 13 ∧ (i < 23 ∨ 47 ≤ i)) : rClose R i = R i := by
  have hle := rBin_le (R := R) (h := R 12) 7
  unfold rClose
  rw [upR_n h.1, upR_n (by omega), upR_n (by omega), upR_n (by omega)]
theorem rOpn_o {x : Int32} {i : Nat} (h : i < 10 ∨ 15 < i) : rOpn R x i = R i := by
  unfold rOpn; rw [rMuch_o (by omega), upR_n (by omega), upR_n (by omega), upR_n (by omega), upR_n (by omega), upR_n (by omega)]
theorem rFl_o {z : Int32} {i : Nat} (h : i < 10 ∨ (16 ≤ i ∧ i < 23) ∨ 47 ≤ i) : rFl R z i = R i := by
  unfold rFl
  have hc : (if R 13 = 1 then rClose R else R) i = R i := by split; exact rClose_o (by omega); rfl
  split
  · rw [upR_n (by omega), rMuch_o (by omega)]
  · split
    · rw [rOpn_o (by omega), hc]
    · exact hc
theorem rGo_o {t : Int32} {i : Nat} (h : 0 < i ∧ (i < 13 ∨ (14 ≤ i ∧ i < 23) ∨ 47 ≤ i)) : rGo R t i = R i := by
  unfold rGo
  split
  · rw [rClose_o (by omega), upR_n (by omega)]
  · rw [upR_n (by omega)]
theorem rGo_0 {t : Int32} : rGo R t 0 = R 0 + t := by
  unfold rGo
  split
  · rw [rClose_o (by omega), upR_s]
  · rw [upR_s]
/-- the row behind the fall: counts, rain, trace, record -/
def rEn (R1 : xRow) (lf lr f : Nat) (z : Int32) : xRow := rRc (rTr (upR (upR R1 (6 + f) (R1 (6 + f) + 1)) 190 (upR R1 (6 + f) (R1 (6 + f) + 1) 190 + z * z * z)) lf (nI f)) lr z
theorem rDrM_eq {t z : Int32} : rDrM R lf lr t z = rEn (rFl (rGo R t) z) lf lr (rDrF R t z) z := rfl
theorem cube_nI {z : Nat} (hz : z ≤ 60) : kCube (nI z) = (nI z * nI z * nI z).toInt64 := by
  have h1 : z * z ≤ 60 * 60 := Nat.mul_le_mul hz hz
  have h2 : z * z * z ≤ 60 * 60 * 60 := Nat.mul_le_mul h1 hz
  unfold kCube
  rw [pk_mul, pk_mul, nI_l (by omega), nI_l (by omega), lN_mul, lN_mul]
theorem AlA.fall (h : AlA M L a R w lf v lr) {f z B : Nat} (hf : f < 4) (hz : z ≤ 60) (hr : nb (R 190) 0 B) (hB : B < 2 ^ 30) (t : Int32) (ht : t = R 0) :
    AlA (kEnt M a w lf v lr t (nI z) f) (kEntL L a (nI z)) a (rEn R lf lr f (nI z)) (kNx w 60) (min (lf + 1) 60) (kNx v 40) (min (lr + 1) 40) := by
  obtain ⟨⟨i1, i2, i3⟩, c, ls, rn, e47, e108, tr, rc⟩ := h
  have l60 : lf ≤ 60 := i1.2.2.2
  have l40 : lr ≤ 40 := i2.2.2.2
  have w60 := i1.2.1
  have v40 := i2.2.1
  unfold kEnt kEntL rEn
  generalize hM1 : xup M (a + 1) f (M (a + 1) f + 1) = M1
  have m1 : ∀ k i, k ≠ a + 1 → M1 k i = M k i := fun k i hk => by rw [← hM1, xup_k hk]
  have j1 : iLn M1 (a + 2) 60 w lf := i1.of fun i => m1 _ _ (by omega)
  generalize hM2 : kPush M1 (a + 2) 60 w lf (nI f) = M2
  have m2 : ∀ k i, k ≠ a + 2 → k ≠ a + 3 → M2 k i = M1 k i := fun k i h1 h2 => by rw [← hM2, kPush_k h1 (by omega)]
  have j2 : iLn M2 (a + 4) 40 v lr := i2.of fun i => by rw [m2 _ _ (by omega) (by omega), m1 _ _ (by omega)]
  generalize hM3 : kPush M2 (a + 4) 40 v lr (nI z) = M3
  have m3 : ∀ k i, k ≠ a + 4 → k ≠ a + 5 → M3 k i = M2 k i := fun k i h1 h2 => by rw [← hM3, kPush_k h1 (by omega)]
  have j3 : iLn M3 (a + 6) 40 v lr := i3.of fun i => by rw [m3 _ _ (by omega) (by omega), m2 _ _ (by omega) (by omega), m1 _ _ (by omega)]
  generalize hM4 : kPush M3 (a + 6) 40 v lr (t - M a 2) = M4
  have m4 : ∀ k i, k ≠ a + 6 → k ≠ a + 7 → M4 k i = M3 k i := fun k i h1 h2 => by rw [← hM4, kPush_k h1 (by omega)]
  have m5 : ∀ k i, k ≠ a → xup M4 a 2 t k i = M4 k i := fun k i hk => xup_k hk
  generalize hR2 : upR (upR R (6 + f) (R (6 + f) + 1)) 190 (upR R (6 + f) (R (6 + f) + 1) 190 + nI z * nI z * nI z) = R2
  have r2 : ∀ i, i ≠ 6 + f → i ≠ 190 → R2 i = R i := fun i h1 h2 => by rw [← hR2, upR_n h2, upR_n h1]
  refine ⟨⟨?_, ?_, ?_⟩, fun g hg => ?_, ?_, ?_, ?_, ?_, fun j hj => ?_, fun j hj => ⟨?_, ?_⟩⟩
  · have := kPush_i (x := nI f) j1 (by decide)
    rw [hM2] at this
    exact this.of fun i => by rw [m5 _ _ (by omega), m4 _ _ (by omega) (by omega), m3 _ _ (by omega) (by omega)]
  · have := kPush_i (x := nI z) j2 (by decide)
    rw [hM3] at this
    exact this.of fun i => by rw [m5 _ _ (by omega), m4 _ _ (by omega) (by omega)]
  · have := kPush_i (x := t - M a 2) j3 (by decide)
    rw [hM4] at this
    exact this.of fun i => by rw [m5 _ _ (by omega)]
  · rw [m5 _ _ (by omega), m4 _ _ (by omega) (by omega), m3 _ _ (by omega) (by omega), m2 _ _ (by omega) (by omega), rRc_out (by omega) l40, rTr_out (by omega) l60]
    by_cases e : g = f
    · subst e; rw [← hM1, xup_s, ← hR2, upR_n (by omega), upR_s, c g hg]
    · rw [← hM1, xup_i e, r2 _ (by omega) (by omega)]; exact c g hg
  · rw [xup_s, rRc_189, rTr_out (by omega) l60, r2 _ (by omega) (by omega)]; exact ht
  · rw [xup_s, rRc_out (by omega) l40, rTr_out (by omega) l60, ← hR2, upR_s, upR_n (by omega), rn, cube_nI hz]
    obtain ⟨q, -, q2, hq⟩ := hr
    have h1 : z * z ≤ 60 * 60 := Nat.mul_le_mul hz hz
    have h2 : z * z * z ≤ 60 * 60 * 60 := Nat.mul_le_mul h1 hz
    rw [hq, pk_mul, pk_mul, nI_l (by omega), nI_l (by omega), lN_add, nI_add, nI_l (by omega)]
  · rw [rRc_out (by omega) l40, rTr_47 l60]
  · rw [rRc_108 l40]
  · rw [m5 _ _ (by omega), m4 _ _ (by omega) (by omega), m3 _ _ (by omega) (by omega), rRc_out (by omega) l40, rTr_r l60 hj, ← hM2]
    by_cases z9 : j = 0
    · subst z9; rw [if_pos rfl]; exact kPush_r0
    · obtain ⟨i, rfl⟩ : ∃ i, j = i + 1 := ⟨j - 1, by omega⟩
      rw [if_neg z9, kPush_rS (b := a + 2) w60 (by omega), m1 _ _ (by omega), r2 _ (by omega) (by omega)]
      exact tr i (by omega)
  · rw [m5 _ _ (by omega), m4 _ _ (by omega) (by omega), rRc_z l40 hj, ← hM3]
    by_cases z9 : j = 0
    · subst z9; rw [if_pos rfl]; exact kPush_r0
    · obtain ⟨i, rfl⟩ : ∃ i, j = i + 1 := ⟨j - 1, by omega⟩
      rw [if_neg z9, kPush_rS (b := a + 4) v40 (by omega), m2 _ _ (by omega) (by omega), m1 _ _ (by omega), rTr_out (by omega) l60, r2 _ (by omega) (by omega)]
      exact (rc i (by omega)).1
  · rw [m5 _ _ (by omega), rRc_g l40 hj, ← hM4]
    by_cases z9 : j = 0
    · subst z9
      rw [if_pos rfl, rTr_out (by omega) l60, rTr_out (by omega) l60, r2 _ (by omega) (by omega), r2 _ (by omega) (by omega), ← ht, ← ls]
      exact kPush_r0
    · obtain ⟨i, rfl⟩ : ∃ i, j = i + 1 := ⟨j - 1, by omega⟩
      rw [if_neg z9, kPush_rS (b := a + 6) v40 (by omega), m3 _ _ (by omega) (by omega), m2 _ _ (by omega) (by omega), m1 _ _ (by omega), rTr_out (by omega) l60, r2 _ (by omega) (by omega)]
      exact (rc i (by omega)).2
theorem AlA.congr (h : AlA M L a R w lf v lr) (hM : ∀ k i, a ≤ k → k ≤ a + 7 → M' k i = M k i) (hL : L' a 1 = L a 1) (hR : ∀ i, ((6 ≤ i ∧ i < 10) ∨ 47 ≤ i) → i < 191 → R' i = R i) : AlA M' L' a R' w lf v lr := by
  obtain ⟨⟨i1, i2, i3⟩, c, ls, rn, e47, e108, tr, rc⟩ := h
  have l60 : lf ≤ 60 := i1.2.2.2
  have l40 : lr ≤ 40 := i2.2.2.2
  have w60 := i1.2.1
  refine ⟨⟨i1.of fun i => hM _ _ (by omega) (by omega), i2.of fun i => hM _ _ (by omega) (by omega), i3.of fun i => hM _ _ (by omega) (by omega)⟩, fun f hf => ?_, ?_, ?_, ?_, ?_, fun j hj => ?_, fun j hj => ⟨?_, ?_⟩⟩
  · rw [hM _ _ (by omega) (by omega), hR _ (by omega) (by omega)]; exact c f hf
  · rw [hM _ _ (by omega) (by omega), hR _ (by omega) (by omega)]; exact ls
  · rw [hL, hR _ (by omega) (by omega)]; exact rn
  · rw [hR _ (by omega) (by omega)]; exact e47
  · rw [hR _ (by omega) (by omega)]; exact e108
  · rw [hM _ _ (by omega) (by omega), hR _ (by omega) (by omega)]; exact tr j hj
  · rw [hM _ _ (by omega) (by omega), hR _ (by omega) (by omega)]; exact (rc j hj).1
  · rw [hM _ _ (by omega) (by omega), hR _ (by omega) (by omega)]; exact (rc j hj).2
end P33

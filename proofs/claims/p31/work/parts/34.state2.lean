/-! ===== a state: a drop's fall, its copy; what its row keeps to ===== -/
/-- a row's numbers keep to their ranges; its tick is at most T, its rain at most B -/
def WFr (R : xRow) (T B : Nat) : Prop :=
  nb (R 1) 0 40 ∧ nb (R 2) 0 20 ∧ nb (R 3) 1 9 ∧ nb (R 4) 1 200 ∧ nb (R 5) 500 5000 ∧ (R 10 = 0 ∨ R 10 = 1) ∧ (R 13 = 0 ∨ R 13 = 1) ∧ (R 15 = 0 ∨ R 15 = 1) ∧ nb (R 12) 0 5000 ∧
  (∃ t0 s0 la, R 0 = nI t0 ∧ R 11 = nI s0 ∧ R 189 = nI la ∧ s0 ≤ t0 ∧ la ≤ t0 ∧ t0 ≤ T) ∧ (∀ k, k < 7 → nb (R (16 + k)) 1 5000) ∧ nb (R 47) 0 60 ∧
  (∃ lr, lr ≤ 40 ∧ R 108 = nI lr ∧ ∀ j, j < lr → nb (R (109 + 2 * j)) 0 T ∧ nb (R (110 + 2 * j)) 1 60) ∧ nb (R 190) 0 B
theorem nb.mono {v : Int32} {a b a' b' : Nat} (h : nb v a b) (h1 : a' ≤ a) (h2 : b ≤ b') : nb v a' b' := by
  obtain ⟨k, q1, q2, q3⟩ := h
  exact ⟨k, by omega, by omega, q3⟩
section P34
variable {M M' : xMem} {L L' : xLng} {a b s p w lf v lr : Nat} {R R' : xRow} {T B : Nat}
theorem WFr.mono (h : WFr R T B) {T' B' : Nat} (h1 : T ≤ T') (h2 : B ≤ B') : WFr R T' B' := by
  obtain ⟨q1, q2, q3, q4, q5, q6, q7, q8, q9, ⟨t0, s0, la, e1, e2, e3, e4, e5, e6⟩, q10, q11, ⟨lr, l1, l2, l3⟩, q12⟩ := h
  exact ⟨q1, q2, q3, q4, q5, q6, q7, q8, q9, ⟨t0, s0, la, e1, e2, e3, e4, e5, by omega⟩, q10, q11, ⟨lr, l1, l2, fun j hj => ⟨(l3 j hj).1.mono (Nat.le_refl _) h1, (l3 j hj).2⟩⟩, q12.mono (Nat.le_refl _) h2⟩
theorem WFr.congr (h : WFr R T B) (e : ∀ i, i < 191 → R' i = R i) : WFr R' T B := by
  obtain ⟨q1, q2, q3, q4, q5, q6, q7, q8, q9, ⟨t0, s0, la, e1, e2, e3, e4, e5, e6⟩, q10, q11, ⟨lr, l1, l2, l3⟩, q12⟩ := h
  unfold WFr
  rw [e 1 (by decide), e 2 (by decide), e 3 (by decide), e 4 (by decide), e 5 (by decide), e 10 (by decide), e 13 (by decide), e 15 (by decide), e 12 (by decide), e 0 (by decide), e 11 (by decide), e 189 (by decide), e 47 (by decide), e 108 (by decide), e 190 (by decide)]
  exact ⟨q1, q2, q3, q4, q5, q6, q7, q8, q9, ⟨t0, s0, la, e1, e2, e3, e4, e5, e6⟩, fun k hk => by rw [e _ (by omega)]; exact q10 k hk, q11, ⟨lr, l1, l2, fun j hj => by rw [e _ (by omega), e _ (by omega)]; exact l3 j hj⟩, q12⟩
theorem WFr.l (h : WFr R T B) : WFl R := ⟨h.2.2.1, h.2.2.2.2.2.2.2.2.1⟩
theorem Al.congr (h : Al M L s R w lf v lr) (hM : ∀ k i, s + 1 ≤ k → k ≤ s + 14 → M' k i = M k i) (hL : L' (s + 7) 1 = L (s + 7) 1) (hR : ∀ i, i < 191 → R' i = R i) : Al M' L' s R' w lf v lr :=
  ⟨h.1.congr (fun k i h1 h2 => hM k i (by omega) (by omega)) (fun i _ hi => hR i (by omega)), h.2.congr (fun k i h1 h2 => hM k i (by omega) (by omega)) hL (fun i _ hi => hR i hi)⟩
theorem kEnt_k {t z : Int32} {f k i : Nat} (h : k < a ∨ a + 7 < k) : kEnt M a w lf v lr t z f k i = M k i := by
  unfold kEnt
  rw [xup_k (by omega), kPush_k (by omega) (by omega), kPush_k (by omega) (by omega), kPush_k (by omega) (by omega), xup_k (by omega)]
theorem kFallM_k {t z : Int32} {f k i : Nat} (h : k ≤ s ∨ s + 14 < k) : kFallM M s w lf v lr t z f k i = M k i := by
  unfold kFallM; rw [kEnt_k (by omega), kRcM_k (by omega), kTick_k (by omega)]
theorem rEn_o {f i : Nat} {z : Int32} (h : i < 6 ∨ (10 ≤ i ∧ i < 47)) (hf : f < 4) (h1 : lf ≤ 60) (h2 : lr ≤ 40) : rEn R lf lr f z i = R i := by
  unfold rEn; rw [rRc_out (by omega) h2, rTr_out (by omega) h1, upR_n (by omega), upR_n (by omega)]
theorem Al.fall (h : Al M L s R w lf v lr) (hw : WFr R T B) {d z : Nat} (hd : d ≤ 100000) (hz : z ≤ 60) (hT : T ≤ 10000000) (hB : B < 2 ^ 30) :
    kRcF (kTick M (s + 1) (nI d)) (s + 1) (nI z) = nI (rDrF R (nI d) (nI z)) ∧
    Al (kFallM M s w lf v lr (nI d) (nI z) (rDrF R (nI d) (nI z))) (kEntL L (s + 7) (nI z)) s (rDrM R lf lr (nI d) (nI z)) (kNx w 60) (min (lf + 1) 60) (kNx v 40) (min (lr + 1) 40) := by
  obtain ⟨hp, ha⟩ := h
  have hl := hw.l
  obtain ⟨q1, q2, q3, q4, q5, q6, q7, q8, q9, ⟨t0, s0, la, e1, e2, e3, e4, e5, e6⟩, q10, q11, q12, q13⟩ := hw
  obtain ⟨f1, f2⟩ := hp.fall q7 q8 hl e1 e2 e4 (d := d) (by omega) (nI z)
  have hf : rDrF R (nI d) (nI z) < 4 := rFt_lt
  have l60 : lf ≤ 60 := ha.1.1.2.2.2
  have l40 : lr ≤ 40 := ha.1.2.1.2.2.2
  refine ⟨f1, ?_, ?_⟩
  · rw [rDrM_eq]
    exact f2.congr (fun k i h1 h2 => by unfold kFallM; rw [kEnt_k (by omega)]) (fun i h1 h2 => rEn_o (by omega) hf l60 l40)
  · rw [rDrM_eq]
    have kk : ∀ k i, s + 6 < k → kRcM (kTick M (s + 1) (nI d)) (s + 1) (nI z) k i = M k i := fun k i q => by rw [kRcM_k (by omega), kTick_k (by omega)]
    have ha1 : AlA (kRcM (kTick M (s + 1) (nI d)) (s + 1) (nI z)) L (s + 7) (rFl (rGo R (nI d)) (nI z)) w lf v lr :=
      ha.congr (fun k i h1 h2 => kk k i (by omega)) rfl (fun i h1 h2 => by rw [rFl_o (by omega), rGo_o (by omega)])
    unfold kFallM
    exact ha1.fall hf hz (B := B) (by rw [rFl_o (by omega), rGo_o (by omega)]; exact q13) hB _ f2.1
/-! copies -/
theorem xcp_r {n k i : Nat} (h : k = b) (hi : i < n) : xcp M a b n k i = M a i := by unfold xcp; rw [if_pos ⟨h, hi⟩]
theorem kPlCp_k {k i : Nat} (h : k < b ∨ b + 5 < k) : kPlCp M a b k i = M k i := by
  unfold kPlCp kSetCp
  rw [xcp_k (by omega), xcp_k (by omega), xcp_k (by omega), xup_k (by omega), xup_k (by omega), xup_k (by omega), xup_k (by omega), xup_k (by omega), xup_k (by omega), xup_k (by omega), xcp_k (by omega), xcp_k (by omega)]
theorem kPlCp_s {i : Nat} (hi : i = 0 ∨ i = 3 ∨ i = 4 ∨ i = 5 ∨ i = 6 ∨ i = 7 ∨ i = 8) : kPlCp M a b b i = M a i := by
  unfold kPlCp
  rw [xcp_k (by omega), xcp_k (by omega), xcp_k (by omega)]
  rcases hi with rfl | rfl | rfl | rfl | rfl | rfl | rfl <;> simp [xup]
theorem AlP.copy (h : AlP M a R) (hab : a + 5 < b ∨ b + 5 < a) : AlP (kPlCp M a b) b R := by
  obtain ⟨a0, a3, a4, a5, a6, a7, a8, s, b0, bo, n1, n2, n3⟩ := h
  have x1 : ∀ i, i < 5 → kPlCp M a b (b + 1) i = M (a + 1) i := fun i hi => by
    unfold kPlCp kSetCp
    rw [xcp_k (by omega), xcp_k (by omega), xcp_k (by omega), xup_k (by omega), xup_k (by omega), xup_k (by omega), xup_k (by omega), xup_k (by omega), xup_k (by omega), xup_k (by omega), xcp_k (by omega), xcp_r rfl hi]
  have x2 : ∀ i, i < 8 → kPlCp M a b (b + 2) i = M (a + 2) i := fun i hi => by
    unfold kPlCp kSetCp
    rw [xcp_k (by omega), xcp_k (by omega), xcp_k (by omega), xup_k (by omega), xup_k (by omega), xup_k (by omega), xup_k (by omega), xup_k (by omega), xup_k (by omega), xup_k (by omega), xcp_r rfl hi, xcp_k (by omega)]
  have x3 : ∀ i, i < 8 → kPlCp M a b (b + 3) i = M (a + 3) i := fun i hi => by
    unfold kPlCp kSetCp
    rw [xcp_k (by omega), xcp_k (by omega), xcp_r rfl hi, xup_k (by omega), xup_k (by omega), xup_k (by omega), xup_k (by omega), xup_k (by omega), xup_k (by omega), xup_k (by omega), xcp_k (by omega), xcp_k (by omega)]
  have x4 : ∀ i, i < 8 → kPlCp M a b (b + 4) i = M (a + 4) i := fun i hi => by
    unfold kPlCp kSetCp
    rw [xcp_k (by omega), xcp_r rfl hi, xcp_k (by omega), xup_k (by omega), xup_k (by omega), xup_k (by omega), xup_k (by omega), xup_k (by omega), xup_k (by omega), xup_k (by omega), xcp_k (by omega), xcp_k (by omega)]
  have x5 : ∀ i, i < 8 → kPlCp M a b (b + 5) i = M (a + 5) i := fun i hi => by
    unfold kPlCp kSetCp
    rw [xcp_r rfl hi, xcp_k (by omega), xcp_k (by omega), xup_k (by omega), xup_k (by omega), xup_k (by omega), xup_k (by omega), xup_k (by omega), xup_k (by omega), xup_k (by omega), xcp_k (by omega), xcp_k (by omega)]
  exact ⟨(kPlCp_s (by decide)).trans a0, (kPlCp_s (by decide)).trans a3, (kPlCp_s (by decide)).trans a4, (kPlCp_s (by decide)).trans a5, (kPlCp_s (by decide)).trans a6, (kPlCp_s (by decide)).trans a7, (kPlCp_s (by decide)).trans a8, fun i hi => (x1 i hi).trans (s i hi), (x2 0 (by decide)).trans b0, fun i hi => (x2 _ (by omega)).trans (bo i hi), fun i hi => (x3 i hi).trans (n1 i hi), fun i hi => (x4 i hi).trans (n2 i hi), fun i hi => (x5 i hi).trans (n3 i hi)⟩
theorem kLnCp_c {N i : Nat} (hi : i < N) (hab : a + 1 < b ∨ b + 1 < a) : kLnCp M a b N (b + 1) i = M (a + 1) i := by
  unfold kLnCp; rw [xup_k (by omega), xup_k (by omega), xcp_r rfl hi]
theorem kLnCp_1 {N : Nat} : kLnCp M a b N b 1 = M a 1 := by unfold kLnCp; rw [xup_i (by decide), xup_s]
theorem kLnCp_2 {N : Nat} : kLnCp M a b N b 2 = M a 2 := by unfold kLnCp; rw [xup_s]
theorem iLn.cp {N w' len : Nat} (h : iLn M a N w' len) : iLn (kLnCp M a b N) b N w' len := by unfold iLn; rw [kLnCp_1, kLnCp_2]; exact h
theorem kAcCp_k {k i : Nat} (h : k < b ∨ b + 7 < k) : kAcCp M a b k i = M k i := by
  unfold kAcCp; rw [kLnCp_k (by omega) (by omega), kLnCp_k (by omega) (by omega), kLnCp_k (by omega) (by omega), xup_k (by omega), xcp_k (by omega)]
theorem AlA.copy (h : AlA M L a R w lf v lr) (hab : a + 7 < b ∨ b + 7 < a) : AlA (kAcCp M a b) (kAcCpL L a b) b R w lf v lr := by
  obtain ⟨⟨i1, i2, i3⟩, c, ls, rn, e47, e108, tr, rc⟩ := h
  have l60 : lf ≤ 60 := i1.2.2.2
  have l40 : lr ≤ 40 := i2.2.2.2
  have w60 := i1.2.1
  have v40 := i2.2.1
  unfold kAcCp
  generalize hM1 : xup (xcp M (a + 1) (b + 1) 4) b 2 (M a 2) = M1
  have m1 : ∀ k i, k ≠ b → k ≠ b + 1 → M1 k i = M k i := fun k i h1 h2 => by rw [← hM1, xup_k h1, xcp_k h2]
  generalize hM2 : kLnCp M1 (a + 2) (b + 2) 60 = M2
  have m2 : ∀ k i, k ≠ b + 2 → k ≠ b + 3 → M2 k i = M1 k i := fun k i h1 h2 => by rw [← hM2, kLnCp_k h1 (by omega)]
  generalize hM3 : kLnCp M2 (a + 4) (b + 4) 40 = M3
  have m3 : ∀ k i, k ≠ b + 4 → k ≠ b + 5 → M3 k i = M2 k i := fun k i h1 h2 => by rw [← hM3, kLnCp_k h1 (by omega)]
  have m4 : ∀ k i, k ≠ b + 6 → k ≠ b + 7 → kLnCp M3 (a + 6) (b + 6) 40 k i = M3 k i := fun k i h1 h2 => kLnCp_k h1 (by omega)
  have j1 : iLn M1 (a + 2) 60 w lf := i1.of fun i => m1 _ _ (by omega) (by omega)
  have j2 : iLn M2 (a + 4) 40 v lr := i2.of fun i => by rw [m2 _ _ (by omega) (by omega), m1 _ _ (by omega) (by omega)]
  have j3 : iLn M3 (a + 6) 40 v lr := i3.of fun i => by rw [m3 _ _ (by omega) (by omega), m2 _ _ (by omega) (by omega), m1 _ _ (by omega) (by omega)]
  refine ⟨⟨?_, ?_, j3.cp⟩, fun f hf => ?_, ?_, ?_, e47, e108, fun j hj => ?_, fun j hj => ⟨?_, ?_⟩⟩
  · have := j1.cp (b := b + 2)
    rw [hM2] at this
    exact this.of fun i => by rw [m4 _ _ (by omega) (by omega), m3 _ _ (by omega) (by omega)]
  · have := j2.cp (b := b + 4)
    rw [hM3] at this
    exact this.of fun i => by rw [m4 _ _ (by omega) (by omega)]
  · rw [m4 _ _ (by omega) (by omega), m3 _ _ (by omega) (by omega), m2 _ _ (by omega) (by omega), ← hM1, xup_k (by omega), xcp_r rfl hf]; exact c f hf
  · rw [m4 _ _ (by omega) (by omega), m3 _ _ (by omega) (by omega), m2 _ _ (by omega) (by omega), ← hM1, xup_s]; exact ls
  · unfold kAcCpL; rw [xup_s]; exact rn
  · rw [m4 _ _ (by omega) (by omega), m3 _ _ (by omega) (by omega), ← hM2, kLnCp_c (b := b + 2) (a := a + 2) (kRing_lt w60 (by omega)) (by omega), m1 _ _ (by omega) (by omega)]; exact tr j hj
  · rw [m4 _ _ (by omega) (by omega), ← hM3, kLnCp_c (b := b + 4) (a := a + 4) (kRing_lt v40 (by omega)) (by omega), m2 _ _ (by omega) (by omega), m1 _ _ (by omega) (by omega)]; exact (rc j hj).1
  · rw [kLnCp_c (b := b + 6) (a := a + 6) (kRing_lt v40 (by omega)) (by omega), m3 _ _ (by omega) (by omega), m2 _ _ (by omega) (by omega), m1 _ _ (by omega) (by omega)]; exact (rc j hj).2
theorem kStCp_k {k i : Nat} (h : k ≤ b ∨ b + 14 < k) : kStCp M a b k i = M k i := by
  unfold kStCp; rw [kAcCp_k (by omega), kPlCp_k (by omega)]
theorem Al.copy (h : Al M L a R w lf v lr) (hab : a + 14 < b ∨ b + 14 < a) : Al (kStCp M a b) (kAcCpL L (a + 7) (b + 7)) b R w lf v lr := by
  obtain ⟨hp, ha⟩ := h
  refine ⟨(hp.copy (b := b + 1) (by omega)).congr (fun k i h1 h2 => by unfold kStCp; rw [kAcCp_k (by omega)]) (fun _ _ _ => rfl), ?_⟩
  have ha1 : AlA (kPlCp M (a + 1) (b + 1)) L (a + 7) R w lf v lr := ha.congr (fun k i h1 h2 => kPlCp_k (by omega)) rfl (fun _ _ _ => rfl)
  exact ha1.copy (by omega)
theorem Al.ipl (h : Al M L s R w lf v lr) (hw : WFr R T B) : iPl M (s + 1) := by
  obtain ⟨a0, a3, a4, a5, a6, a7, a8, -⟩ := h.1
  obtain ⟨-, -, -, -, -, q6, q7, q8, -⟩ := hw
  exact ⟨by rw [a3]; exact q6, by rw [a6]; exact q7, by rw [a8]; exact q8⟩
end P34

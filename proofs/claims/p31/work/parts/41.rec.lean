/-! ===== the whole object: what the record would have been ===== -/
def rSetup (R : xRow) (w d : Int32) : xRow := upR (upR (cpR (cpR rCln 1 R 1 5) 16 R 16 7) 2 w) 3 d
def rPlay (R : xRow) (w d : Int32) : Nat → xRow
  | 0 => rSetup R w d
  | k + 1 => rDr (rPlay R w d k) (R (109 + 2 * k)) (R (110 + 2 * k))
def aRep (R : xRow) (w d f : Int32) : Nat → Int32
  | 0 => 0
  | k + 1 => if nI (rDrF (rPlay R w d k) (R (109 + 2 * k)) (R (110 + 2 * k))) = f then aRep R w d f k + 1 else aRep R w d f k
def xLr (R : xRow) : Nat := (R 108).toNatClampNeg
def kdRep (w d f : Int32) : Nat := if kdSet 1 w = 0 ∧ kdSet 2 d = 0 ∧ kdO f 0 3 = 0 then 0 else 1
def rDue (R : xRow) (lr : Nat) : Int64 := kSumL (fun j => kCube (R (110 + 2 * (lr - 1 - j)))) lr
def rClo (R : xRow) : xRow := if R 13 = 1 then rClose R else R
def rErr (R : xRow) (law w : Int32) : Int64 := if 0 < aRain (rClo (rPlay R w (R 3) (xLr R))) law 8 - rDue R (xLr R) then aRain (rClo (rPlay R w (R 3) (xLr R))) law 8 - rDue R (xLr R) else -(aRain (rClo (rPlay R w (R 3) (xLr R))) law 8 - rDue R (xLr R))
def aBest (R : xRow) (law : Int32) : Nat → Int32 × Int64
  | 0 => (0, 0)
  | k + 1 => if k = 0 ∨ rErr R law (nI k) < (aBest R law k).2 then (nI k, rErr R law (nI k)) else aBest R law k
section P41
variable {M M' : xMem} {L L' : xLng} {o s p a b : Nat} {R R' Q : xRow} {T B c w lf v lr : Nat} {S : xSp}
theorem kSetCp_k {k i : Nat} (h : k ≠ b + 1) (h2 : k ≠ b + 2) : kSetCp M a b k i = M k i := by unfold kSetCp; rw [xcp_k h2, xcp_k h]
theorem AlP.setup (h : AlP M b Q) (hr : AlP M a R) (hab : a + 5 < b ∨ b + 5 < a) : AlP (kSetCp M a b) b (cpR (cpR Q 1 R 1 5) 16 R 16 7) := by
  obtain ⟨a0, a3, a4, a5, a6, a7, a8, s, b0, bo, n1, n2, n3⟩ := h
  obtain ⟨-, -, -, -, -, -, -, rs, rb0, rb, -, -, -⟩ := hr
  have e : ∀ i, ¬ (1 ≤ i ∧ i < 6) → ¬ (16 ≤ i ∧ i < 23) → cpR (cpR Q 1 R 1 5) 16 R 16 7 i = Q i := fun i h1 h2 => by unfold cpR; rw [if_neg (by omega), if_neg (by omega)]
  have x1 : ∀ i, i < 5 → kSetCp M a b (b + 1) i = M (a + 1) i := fun i hi => by unfold kSetCp; rw [xcp_k (by omega), xcp_r rfl hi]
  have x2 : ∀ i, i < 8 → kSetCp M a b (b + 2) i = M (a + 2) i := fun i hi => by unfold kSetCp; rw [xcp_r rfl hi, xcp_k (by omega)]
  refine ⟨?_, ?_, ?_, ?_, ?_, ?_, ?_, fun i hi => ?_, ?_, fun i hi => ?_, fun i hi => ?_, fun i hi => ?_, fun i hi => ?_⟩
  · rw [kSetCp_k (by omega) (by omega), e _ (by omega) (by omega)]; exact a0
  · rw [kSetCp_k (by omega) (by omega), e _ (by omega) (by omega)]; exact a3
  · rw [kSetCp_k (by omega) (by omega), e _ (by omega) (by omega)]; exact a4
  · rw [kSetCp_k (by omega) (by omega), e _ (by omega) (by omega)]; exact a5
  · rw [kSetCp_k (by omega) (by omega), e _ (by omega) (by omega)]; exact a6
  · rw [kSetCp_k (by omega) (by omega), e _ (by omega) (by omega)]; exact a7
  · rw [kSetCp_k (by omega) (by omega), e _ (by omega) (by omega)]; exact a8
  · rw [x1 i hi, rs i hi]; unfold cpR; rw [if_neg (by omega), if_pos (by omega)]; congr 1; omega
  · rw [x2 0 (by decide)]; exact rb0
  · rw [x2 _ (by omega), rb i hi]; unfold cpR; rw [if_pos (by omega)]; congr 1; omega
  · rw [kSetCp_k (by omega) (by omega), e _ (by omega) (by omega)]; exact n1 i hi
  · rw [kSetCp_k (by omega) (by omega), e _ (by omega) (by omega)]; exact n2 i hi
  · rw [kSetCp_k (by omega) (by omega), e _ (by omega) (by omega)]; exact n3 i hi
theorem rSetup_o {w d : Int32} {i : Nat} (h : ¬ (1 ≤ i ∧ i < 6)) (h2 : ¬ (16 ≤ i ∧ i < 23)) : rSetup R w d i = rCln i := by
  unfold rSetup; rw [upR_n (by omega), upR_n (by omega)]; unfold cpR; rw [if_neg (by omega), if_neg (by omega)]
theorem rSetup_s {w d : Int32} {i : Nat} (h : i = 1 ∨ i = 4 ∨ i = 5) : rSetup R w d i = R i := by
  unfold rSetup; rw [upR_n (by omega), upR_n (by omega)]; unfold cpR; rw [if_neg (by omega), if_pos (by omega)]; congr 1; omega
theorem rSetup_b {w d : Int32} {i : Nat} (h : 16 ≤ i ∧ i < 23) : rSetup R w d i = R i := by
  unfold rSetup; rw [upR_n (by omega), upR_n (by omega)]; unfold cpR; rw [if_pos (by omega)]; congr 1; omega
theorem WFr.setup (h : WFr R T B) {w d : Int32} (hw : nb w 0 20) (hd : nb d 1 9) : WFr (rSetup R w d) 0 0 := by
  obtain ⟨c1, c2, c3, c4, c5, c6, c7, c8, c9, c10, c11, c12, c13, c14⟩ := WFr.cln
  obtain ⟨q1, q2, q3, q4, q5, -, -, -, -, -, q11, -, -, -⟩ := h
  have e : ∀ i, ¬ (1 ≤ i ∧ i < 6) → ¬ (16 ≤ i ∧ i < 23) → rSetup R w d i = rCln i := fun i => rSetup_o
  unfold WFr
  rw [rSetup_s (i := 1) (by decide), rSetup_s (i := 4) (by decide), rSetup_s (i := 5) (by decide), show rSetup R w d 2 = w by unfold rSetup; rw [upR_n (by decide), upR_s], show rSetup R w d 3 = d by unfold rSetup; rw [upR_s], e 10 (by decide) (by decide), e 13 (by decide) (by decide), e 15 (by decide) (by decide), e 12 (by decide) (by decide), e 0 (by decide) (by decide), e 11 (by decide) (by decide), e 189 (by decide) (by decide), e 47 (by decide) (by decide), e 108 (by decide) (by decide), e 190 (by decide) (by decide)]
  refine ⟨q1, hw, hd, q4, q5, c6, c7, c8, c9, c10, fun k hk => by rw [rSetup_b (by omega)]; exact q11 k hk, c12, ?_, c14⟩
  exact ⟨0, by decide, rfl, fun j hj => absurd hj (Nat.not_lt_zero _)⟩
theorem WFr.rec (h : WFr R T B) {k : Nat} (hk : k < xLr R) : (∃ g, g ≤ T ∧ R (109 + 2 * k) = nI g) ∧ ∃ z, 1 ≤ z ∧ z ≤ 60 ∧ R (110 + 2 * k) = nI z := by
  obtain ⟨lr, r2, e108, e⟩ := h.2.2.2.2.2.2.2.2.2.2.2.2.1
  have : xLr R = lr := by unfold xLr; rw [e108, nI_clamp (by omega)]
  obtain ⟨⟨g, -, g2, g3⟩, z, z1, z2, z3⟩ := e k (by omega)
  exact ⟨⟨g, g2, g3⟩, z, z1, z2, z3⟩
theorem WFr.rlen (h : WFr R T B) : xLr R ≤ 40 ∧ R 108 = nI (xLr R) := by
  obtain ⟨lr, r2, e108, -⟩ := h.2.2.2.2.2.2.2.2.2.2.2.2.1
  have : xLr R = lr := by unfold xLr; rw [e108, nI_clamp (by omega)]
  rw [this]; exact ⟨r2, e108⟩
theorem WFr.play (h : WFr R T B) {w d : Int32} (hw : nb w 0 20) (hd : nb d 1 9) (hT : T ≤ 250000) : ∀ k, k ≤ xLr R → WFr (rPlay R w d k) (k * T) (k * 216000)
  | 0, _ => by rw [Nat.zero_mul, Nat.zero_mul]; exact h.setup hw hd
  | k + 1, hk => by
    have l := h.rlen.1
    have hk40 : k * T ≤ 40 * T := Nat.mul_le_mul (by omega) (Nat.le_refl _)
    obtain ⟨⟨g, g1, g2⟩, z, z1, z2, z3⟩ := h.rec (k := k) (by omega)
    have := (h.play hw hd hT k (by omega)).dr (d := g) ⟨z1, z2⟩ (by omega) (by omega)
    unfold rPlay
    rw [g2, z3]
    exact this.mono (by rw [Nat.add_mul]; omega) (by rw [Nat.add_mul]; omega)
/-- the plate alone: what is received, behind it the row of a whole fall -/
theorem AlP.recv (h : AlP M p Q) (hw : WFr Q T B) {d z : Nat} (hd : d ≤ 1000000) (hT : T ≤ 20000000) : kRcF (kTick M p (nI d)) p (nI z) = nI (rDrF Q (nI d) (nI z)) ∧ AlP (kRcM (kTick M p (nI d)) p (nI z)) p (rDr Q (nI d) (nI z)) := by
  have hl := hw.l
  obtain ⟨q1, q2, q3, q4, q5, q6, q7, q8, q9, ⟨t0, s0, la, e1, e2, e3, e4, e5, e6⟩, q10, ⟨lf, -, f2, e47⟩, ⟨lr, r2, e108, -⟩, q13⟩ := hw
  obtain ⟨f1, f3⟩ := h.fall q7 q8 hl e1 e2 e4 (d := d) (by omega) (nI z)
  refine ⟨f1, f3.congr (fun k i h1 h2 => rfl) (fun i h1 h2 => ?_)⟩
  unfold rDr
  rw [e47, e108, nI_clamp (by omega), nI_clamp (by omega), rDrM_eq]
  exact rEn_o (by omega) rFt_lt f2 r2
theorem kSumL_congr {g h : Nat → Int64} : ∀ n, (∀ i, i < n → g i = h i) → kSumL g n = kSumL h n
  | 0, _ => rfl
  | n + 1, q => by unfold kSumL; rw [kSumL_congr n (fun i hi => q i (by omega)), q n (by omega)]
theorem AlA.due (h : AlA M L a R w lf v lr) : kSumL (fun j => kCube (kLf M (a + 4) v 40 j)) lr = rDue R lr :=
  kSumL_congr lr fun i hi => congrArg kCube (h.2.2.2.2.2.2.2 i hi).1
theorem AlP.clo (h : AlP M p Q) (hw : WFr Q T B) : AlP (kClose M p) p (rClo Q) := by
  have e6 : M p 6 = Q 13 := h.2.2.2.2.1
  unfold rClo
  rcases hw.2.2.2.2.2.2.1 with z | z
  · unfold kClose; rw [if_pos (by rw [e6, z]), if_neg (by rw [z]; decide)]; exact h
  · rw [if_pos z]; exact h.close z hw.2.2.2.2.2.2.2.1
theorem Al.rlen (h : Al M L s R w lf v lr) : xLr R = lr := by
  have e108 := h.2.2.2.2.2.2.1
  have l40 : lr ≤ 40 := h.2.1.2.1.2.2.2
  unfold xLr; rw [e108, nI_clamp (by omega)]
theorem kdSet_1 {w : Int32} (h : kdSet 1 w = 0) : nb w 0 20 := by
  unfold kdSet at h
  split at h
  next c =>
    have c2 : ¬ (w < 0 ∨ 20 < w) := c.2
    rw [not_or] at c2
    obtain ⟨k, k1, k2⟩ := xIdx (N := 20) (by decide) c2.1 c2.2
    exact ⟨k, Nat.zero_le _, k1, k2⟩
  · exact absurd h (by decide)
theorem kdSet_2 {w : Int32} (h : kdSet 2 w = 0) : nb w 1 9 := by
  unfold kdSet at h
  split at h
  next c =>
    have c2 : ¬ (w < 1 ∨ 9 < w) := c.2
    rw [not_or] at c2
    obtain ⟨k, k0, k1, k2⟩ := xIdx1 (N := 9) (by decide) c2.1 c2.2
    exact ⟨k, k0, k1, k2⟩
  · exact absurd h (by decide)
end P41
theorem xdec {v : Int32} : v + Int32.ofInt (-1) = v - 1 := by rw [Int32.sub_eq_add_neg]; rfl
section C41
variable {E : xEnv} {l : Launch} {x : Bool} {n : Nat} {K : xKnd} {G : xRef} {M : xMem} {L : xLng} {o T B : Nat} {S : xSp}
theorem c_X5_replayRecord (h : rX n K G o) (hc : CRel M L o S) (hw : WFS S T B) (hT : T ≤ 250000) {w d : Int32} (hw9 : nb w 0 20) (hd9 : nb d 1 9) (f : Int32) :
    Con E l Y_X5_replayRecord [.ref o, .int w, .int d, .int f] (x, n, K, G, M, L) (fun r q' => ∃ M', q' = (x, n, K, G, M', L) ∧ r = some (.int (aRep S.2.2.1 w d f (xLr S.2.2.1))) ∧ AlP M' (o + 33 + 1) (rPlay S.2.2.1 w d (xLr S.2.2.1)) ∧ (∀ k i, (k < o + 34 ∨ o + 39 < k) → M' k i = M k i)) xF := by
  obtain ⟨h0, -, -, g1, ⟨h10, gp, hp, ga, ha⟩, g2, ⟨h20, gq, hq, -⟩, g3, ⟨h30, gr, hr, -⟩, -⟩ := h
  have hA0 := ha
  obtain ⟨ha0, -, -, -, -, gz, hz, gg, hg⟩ := ha
  have hp0 := hp.1
  have hz0 := hz.1
  have hg0 := hg.1
  have gs := hr.2.1
  have hss := hr.2.2.1
  have hr0 := hr.1
  have hq0 := hq.1
  have wR := hw.1
  obtain ⟨-, -, ⟨w9, lf, v, lr, hA⟩, ⟨w8, lf8, v8, lr8, hF⟩, -⟩ := hc
  have el := hA.rlen
  have l40 : lr ≤ 40 := hA.2.1.2.1.2.2.2
  rw [el]
  have ip : iPl M (o + 18 + 1) := hF.ipl WFr.cln
  generalize hR : S.2.2.1 = R at *
  -- the loop
  have loop : ∀ (i k : Nat) (M1 : xMem), i + k = lr → AlP M1 (o + 33 + 1) (rPlay R w d k) → (∀ k i, (k < o + 34 ∨ o + 39 < k) → M1 k i = M k i) →
      V E l Y_X5_replayRecord (xQm E Y_X5_replayRecord (fun r q' => ∃ M', q' = (x, n, K, G, M', L) ∧ r = some (.int (aRep R w d f lr)) ∧ AlP M' (o + 33 + 1) (rPlay R w d lr) ∧ (∀ k i, (k < o + 34 ∨ o + 39 < k) → M' k i = M k i)) xF) (x, n, K, G, M1, L) (0, 0) 73
        [some (.ref o), some (.int w), some (.int d), some (.int f), some (.ref (o + 33 + 1)), some (.ref (o + 3 + 7)), some (.int (aRep R w d f k)), some (.int (nI i - 1))] [] := by
    intro i
    induction i with
    | zero =>
      intro k M1 hk a1 a2
      have e : k = lr := by omega
      subst e
      refine V_ild7 dX5_replayRecord_73 ?_
      refine V_if_lt (tgt := 116) dX5_replayRecord_75 (by decide) (fun h75 => ?_) (fun h75 => ?_)
      · refine V_ild6 dX5_replayRecord_116 ?_
        exact V_iret rfl dX5_replayRecord_118 (by decide) (by decide) ⟨M1, rfl, rfl, a1, a2⟩
      · exact absurd h75 (by decide)
    | succ i ih =>
      intro k M1 hk a1 a2
      have hi1 : iLn M1 (o + 3 + 7 + 4) 40 v lr := hA.2.1.2.1.of fun i => a2 _ _ (by omega)
      have hi2 : iLn M1 (o + 3 + 7 + 6) 40 v lr := hA.2.1.2.2.of fun i => a2 _ _ (by omega)
      have ek : lr - 1 - i = k := by omega
      have eg : M1 (o + 3 + 7 + 6 + 1) (kRing v i 40) = R (109 + 2 * k) := by rw [a2 _ _ (by omega), ← ek]; exact (hA.2.2.2.2.2.2.2.2 i (by omega)).2
      have ez : M1 (o + 3 + 7 + 4 + 1) (kRing v i 40) = R (110 + 2 * k) := by rw [a2 _ _ (by omega), ← ek]; exact (hA.2.2.2.2.2.2.2.2 i (by omega)).1
      have e1 : nI (i + 1) - 1 = nI i := pkSub (b := 1) (by omega)
      obtain ⟨⟨g, g9, g8⟩, z, z1, z2, z8⟩ := wR.rec (k := k) (by rw [el]; omega)
      have hk40 : k * T ≤ 40 * T := Nat.mul_le_mul (by omega) (Nat.le_refl _)
      obtain ⟨f1, f2⟩ := a1.recv (wR.play hw9 hd9 hT k (by rw [el]; omega)) (d := g) (z := z) (by omega) (by omega)
      have a3 : ∀ k i, (k < o + 34 ∨ o + 39 < k) → kRcM (kTick M1 (o + 33 + 1) (nI g)) (o + 33 + 1) (nI z) k i = M k i := fun k i q => by rw [kRcM_k (by omega), kTick_k (by omega)]; exact a2 k i q
      have es : rPlay R w d (k + 1) = rDr (rPlay R w d k) (nI g) (nI z) := by rw [← g8, ← z8]; rfl
      rw [← es] at f2
      have key : ∀ y, y = aRep R w d f (k + 1) → V E l Y_X5_replayRecord (xQm E Y_X5_replayRecord (fun r q' => ∃ M', q' = (x, n, K, G, M', L) ∧ r = some (.int (aRep R w d f lr)) ∧ AlP M' (o + 33 + 1) (rPlay R w d lr) ∧ (∀ k i, (k < o + 34 ∨ o + 39 < k) → M' k i = M k i)) xF) (x, n, K, G, kRcM (kTick M1 (o + 33 + 1) (nI g)) (o + 33 + 1) (nI z), L) (0, 0) 110
        [some (.ref o), some (.int w), some (.int d), some (.int f), some (.ref (o + 33 + 1)), some (.ref (o + 3 + 7)), some (.int y), some (.int (nI i))] [] := by
        intro y hy
        subst hy
        refine V_inc7 dX5_replayRecord_110 rfl (xdec) ?_
        refine V_goto (tgt := 73) dX5_replayRecord_113 (by decide) ?_
        exact ih (k + 1) _ (by omega) f2 a3
      rw [e1]
      refine V_ild7 dX5_replayRecord_73 ?_
      refine V_if_lt (tgt := 116) dX5_replayRecord_75 (by decide) (fun h75 => ?_) (fun h75 => ?_)
      · exact absurd h75 (nI_pos (by omega))
      · refine V_ald4 dX5_replayRecord_78 ?_
        refine V_ald5 dX5_replayRecord_80 ?_
        refine V_getR fd_X5_335 dX5_replayRecord_82 (by assumption) (by assumption) rfl ?_
        refine V_ild7 dX5_replayRecord_85 ?_
        refine V_cv1R lk_X5_187 cc_X1_back dX5_replayRecord_87 (by assumption) (c_X1_back hg hi2 (j := i) (by omega)) ft_X5_replayRecord_X1_back rfl rfl (Nat.le_of_ble_eq_true rfl) ?_
        refine V_ald5 dX5_replayRecord_90 ?_
        refine V_getR fd_X5_135 dX5_replayRecord_92 (by assumption) (by assumption) rfl ?_
        refine V_ild7 dX5_replayRecord_95 ?_
        refine V_cv1R lk_X5_187 cc_X1_back dX5_replayRecord_97 (by assumption) (c_X1_back hz hi1 (j := i) (by omega)) ft_X5_replayRecord_X1_back rfl rfl (Nat.le_of_ble_eq_true rfl) ?_
        rw [eg, ez, g8, z8]
        refine V_cv2R lk_X5_338 cc_X2_receive dX5_replayRecord_100 (by assumption) (c_X2_receive hr _ _) ft_X5_replayRecord_X2_receive rfl rfl (Nat.le_of_ble_eq_true rfl) ?_
        rw [f1]
        refine V_ild3 dX5_replayRecord_103 ?_
        refine V_icmp_ne (tgt := 110) dX5_replayRecord_104 (by decide) (fun h104 => ?_) (fun h104 => ?_)
        · first
          | exact key _ (by rw [aRep, g8, z8, if_pos h104])
          | exact key _ (by rw [aRep, g8, z8, if_neg h104])
        · refine V_inc6 dX5_replayRecord_107 rfl (xinc_1 _) ?_
          first
          | exact key _ (by rw [aRep, g8, z8, if_pos h104])
          | exact key _ (by rw [aRep, g8, z8, if_neg h104])
  have m1 : ∀ k i, (k < o + 34 ∨ o + 39 < k) → kPlCp M (o + 18 + 1) (o + 33 + 1) k i = M k i := fun k i q => kPlCp_k (by omega)
  have p1 : AlP (kPlCp M (o + 18 + 1) (o + 33 + 1)) (o + 33 + 1) rCln := hF.1.copy (by omega)
  have p2 : AlP (kPlCp M (o + 18 + 1) (o + 33 + 1)) (o + 3 + 1) R := hA.1.congr (fun k i h1 h2 => m1 _ _ (by omega)) (fun _ _ _ => rfl)
  have p3 := ((p1.setup p2 (by omega)).set (k := 1) (by decide) w).set (k := 2) (by decide) d
  refine Con.mk 4 mp_X5_replayRecord rfl (ls := [some (.ref o), some (.int w), some (.int d), some (.int f), none, none, none, none]) rfl (Nat.le_of_ble_eq_true rfl) ?_
  refine V_ald0 dX5_replayRecord_0 ?_
  refine V_getR fd_X5_26 dX5_replayRecord_1 (by assumption) (by assumption) rfl ?_
  refine V_getR fd_X5_109 dX5_replayRecord_4 (by assumption) (by assumption) rfl ?_
  refine V_ast4 dX5_replayRecord_7 rfl (by decide) ?_
  refine V_ald4 dX5_replayRecord_9 ?_
  refine V_ald0 dX5_replayRecord_11 ?_
  refine V_getR fd_X5_23 dX5_replayRecord_12 (by assumption) (by assumption) rfl ?_
  refine V_getR fd_X5_109 dX5_replayRecord_15 (by assumption) (by assumption) rfl ?_
  refine V_cv1U lk_X5_329 cc_X2_copyFrom dX5_replayRecord_18 hr0 (c_X2_copyFrom hq hr (by omega) ip) ft_X5_replayRecord_X2_copyFrom rfl rfl (Nat.le_of_ble_eq_true rfl) ?_
  refine V_ald4 dX5_replayRecord_21 ?_
  refine V_ald0 dX5_replayRecord_23 ?_
  refine V_getR fd_X5_19 dX5_replayRecord_24 (by assumption) (by assumption) rfl ?_
  refine V_getR fd_X5_109 dX5_replayRecord_27 (by assumption) (by assumption) rfl ?_
  refine V_cv1U lk_X5_332 cc_X2_copySetupFrom dX5_replayRecord_30 (by assumption) (c_X2_copySetupFrom hp hr (by omega)) ft_X5_replayRecord_X2_copySetupFrom rfl rfl (Nat.le_of_ble_eq_true rfl) ?_
  refine V_ald4 dX5_replayRecord_33 ?_
  refine V_getR fd_X5_152 dX5_replayRecord_35 (by assumption) (by assumption) rfl ?_
  refine V_iconst (v := 1) dX5_replayRecord_38 (by decide) ?_
  refine V_ild1 dX5_replayRecord_39 ?_
  refine V_iast (j := 1) dX5_replayRecord_40 (by assumption) (by decide) (by decide) ?_
  refine V_ald4 dX5_replayRecord_41 ?_
  refine V_getR fd_X5_152 dX5_replayRecord_43 (by assumption) (by assumption) rfl ?_
  refine V_iconst (v := 2) dX5_replayRecord_46 (by decide) ?_
  refine V_ild2 dX5_replayRecord_47 ?_
  refine V_iast (j := 2) dX5_replayRecord_48 (by assumption) (by decide) (by decide) ?_
  refine V_ald0 dX5_replayRecord_49 ?_
  refine V_getR fd_X5_19 dX5_replayRecord_50 (by assumption) (by assumption) rfl ?_
  refine V_getR fd_X5_100 dX5_replayRecord_53 (by assumption) (by assumption) rfl ?_
  refine V_ast5 dX5_replayRecord_56 rfl (by decide) ?_
  refine V_iconst (v := 0) dX5_replayRecord_58 (by decide) ?_
  refine V_ist6 dX5_replayRecord_59 rfl (by decide) ?_
  refine V_ald5 dX5_replayRecord_61 ?_
  refine V_getR fd_X5_135 dX5_replayRecord_63 (by assumption) (by assumption) rfl ?_
  refine V_getI fd_X5_139 dX5_replayRecord_66 (by assumption) rfl ?_
  refine V_iconst (v := 1) dX5_replayRecord_69 (by decide) ?_
  rw [xup_k (by omega), xup_k (by omega), kSetCp_k (by omega) (by omega), m1 _ _ (by omega), show M (o + 3 + 7 + 4) 2 = nI lr from hA.2.1.2.1.2.2.1]
  refine V_isub dX5_replayRecord_70 ?_
  refine V_ist7 dX5_replayRecord_71 rfl (by decide) ?_
  exact loop lr 0 _ (by omega) p3 (fun k i q => by rw [xup_k (by omega), xup_k (by omega), kSetCp_k (by omega) (by omega), m1 _ _ (by omega)])
theorem c_X5_replay (hl9 : l.stackTraces = false) (h : rX n K G o) (hc : CRel M L o S) (hw : WFS S T B) (hT : T ≤ 250000) (w d f : Int32) :
    Con E l Y_X5_replay [.ref o, .int w, .int d, .int f] (x, n, K, G, M, L) (xG (kdRep w d f) (some (.int (aRep S.2.2.1 w d f (xLr S.2.2.1)))) S o x n K G M L) (xC (kdRep w d f) nsA (x, n, K, G, M, L)) := by
  have h0 := h.1
  refine Con.mk 0 mp_X5_replay rfl (ls := [some (.ref o), some (.int w), some (.int d), some (.int f)]) rfl (Nat.le_of_ble_eq_true rfl) ?_
  refine V_iconst (v := 1) dX5_replay_0 (by decide) ?_
  refine V_ild1 dX5_replay_1 ?_
  refine V_cs2R lk_X5_233 cc_X5_isSetting dX5_replay_2 (c_X5_isSetting 1 w) ft_X5_replay_X5_isSetting rfl rfl (Nat.le_of_ble_eq_true rfl) ?_
  refine V_if_eq (tgt := 25) dX5_replay_5 (by decide) (fun h5 => ?_) (fun h5 => ?_)
  · exact V_throwW th_X5_265 hl9 rfl dX5_replay_25 dX5_replay_28 dX5_replay_29 dX5_replay_32 dX5_replay_35 (by decide) (by decide) (by decide) (by decide) (xC_mk 0 (by
  unfold kdRep
  rw [if_neg]
  rintro ⟨y1, y2, y3⟩
  first
  | exact h22 (bIf (by unfold kdO at y3; split at y3; exact absurd y3 (by decide); assumption))
  | exact (bI0.mp h13) (by unfold kdSet at y2; split at y2; assumption; exact absurd y2 (by decide))
  | exact (bI0.mp h5) (by unfold kdSet at y1; split at y1; assumption; exact absurd y1 (by decide))) rfl)
  · rw [bI0, Decidable.not_not] at h5
    have k1 : kdSet 1 w = 0 := by unfold kdSet; rw [if_pos h5]
    refine V_iconst (v := 2) dX5_replay_8 (by decide) ?_
    refine V_ild2 dX5_replay_9 ?_
    refine V_cs2R lk_X5_233 cc_X5_isSetting dX5_replay_10 (c_X5_isSetting 2 d) ft_X5_replay_X5_isSetting rfl rfl (Nat.le_of_ble_eq_true rfl) ?_
    refine V_if_eq (tgt := 25) dX5_replay_13 (by decide) (fun h13 => ?_) (fun h13 => ?_)
    · exact V_throwW th_X5_265 hl9 rfl dX5_replay_25 dX5_replay_28 dX5_replay_29 dX5_replay_32 dX5_replay_35 (by decide) (by decide) (by decide) (by decide) (xC_mk 0 (by
  unfold kdRep
  rw [if_neg]
  rintro ⟨y1, y2, y3⟩
  first
  | exact h22 (bIf (by unfold kdO at y3; split at y3; exact absurd y3 (by decide); assumption))
  | exact (bI0.mp h13) (by unfold kdSet at y2; split at y2; assumption; exact absurd y2 (by decide))
  | exact (bI0.mp h5) (by unfold kdSet at y1; split at y1; assumption; exact absurd y1 (by decide))) rfl)
    · rw [bI0, Decidable.not_not] at h13
      have k2 : kdSet 2 d = 0 := by unfold kdSet; rw [if_pos h13]
      refine V_ild3 dX5_replay_16 ?_
      refine V_iconst (v := 0) dX5_replay_17 (by decide) ?_
      refine V_iconst (v := 3) dX5_replay_18 (by decide) ?_
      refine V_cs3R lk_X5_53 cc_X5_isOutside dX5_replay_19 (c_X5_isOutside _ _ _) ft_X5_replay_X5_isOutside rfl rfl (Nat.le_of_ble_eq_true rfl) ?_
      refine V_if_eq (tgt := 36) dX5_replay_22 (by decide) (fun h22 => ?_) (fun h22 => ?_)
      · rw [bI0] at h22
        have k3 : kdO f 0 3 = 0 := by unfold kdO; rw [if_neg h22]
        refine V_ald0 dX5_replay_36 ?_
        refine V_ild1 dX5_replay_37 ?_
        refine V_ild2 dX5_replay_38 ?_
        refine V_ild3 dX5_replay_39 ?_
        refine V_cv3P lk_X5_267 cc_X5_replayRecord dX5_replay_40 (by assumption) (c_X5_replayRecord h hc hw hT (kdSet_1 k1) (kdSet_2 k2) f) ft_X5_replay_X5_replayRecord (Nat.le_of_ble_eq_true rfl) (fun o9 q9 hq9 => ?_)
        obtain ⟨M1, rfl, rfl, a1, a2⟩ := hq9
        show V E l _ _ _ (0, 0) 43 _ [_]
        exact V_iret rfl dX5_replay_43 (by decide) (by decide) ⟨by unfold kdRep; rw [if_pos ⟨k1, k2, k3⟩], rfl, _, _, rfl, hc.scr (fun k i q1 q2 q3 => a2 _ _ (by omega)) (fun k q => rfl), fun k hk => ⟨fun i => a2 _ _ (by omega), fun i => rfl⟩⟩
      · exact V_throwW th_X5_265 hl9 rfl dX5_replay_25 dX5_replay_28 dX5_replay_29 dX5_replay_32 dX5_replay_35 (by decide) (by decide) (by decide) (by decide) (xC_mk 0 (by
  unfold kdRep
  rw [if_neg]
  rintro ⟨y1, y2, y3⟩
  first
  | exact h22 (bIf (by unfold kdO at y3; split at y3; exact absurd y3 (by decide); assumption))
  | exact (bI0.mp h13) (by unfold kdSet at y2; split at y2; assumption; exact absurd y2 (by decide))
  | exact (bI0.mp h5) (by unfold kdSet at y1; split at y1; assumption; exact absurd y1 (by decide))) rfl)
end C41

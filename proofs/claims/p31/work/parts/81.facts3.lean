/-! ===== what is told of a row that is kept so: the open pulse, the trace, what the record would be; two helpers of the law ===== -/
/-- the trace as it is read, the latest first -/
def tr (R : xRow) (lf : Nat) : Nat → Int32 := fun j => R (48 + (lf - 1 - j))
section P81
variable {R : xRow} {T B r : Nat} {c : Nat → Nat}
theorem lPulse_v {w : Int32} (h : kdO w 0 3 = 0) : lPulse R w = (aPulse R w).toInt64 := by unfold lPulse; rw [lC_0 h]
theorem fPc (h : R 13 = 0) : lPulse R 0 = -9 ∧ lPulse R 1 = -9 := by
  constructor <;> (rw [lPulse_v (by decide)]; unfold aPulse; rw [if_pos h]; decide)
theorem fPo (h : R 13 = 1) (hw : WFr R T B) (hT : T < 2 ^ 30) {a d : Nat} (ha : R 12 = nI a) (a2 : a ≤ 5000) (hd : R 14 = nI d) (d2 : d < 2 ^ 31) :
    (∃ g, g < 2 ^ 31 ∧ lPulse R 0 = lN g) ∧ lPulse R 1 = lN a ∧ lPulse R 2 = lN d ∧ ∃ q, q ≤ 1 ∧ lPulse R 3 = lN q := by
  have n0 : ¬ R 13 = 0 := by rw [h]; decide
  have hs := hw.2.2.2.2.2.2.2.1
  obtain ⟨-, -, -, -, -, -, -, -, -, ⟨t0, s0, la, e1, e2, e3, e4, e5, e6⟩, -⟩ := hw
  refine ⟨⟨t0 - s0, by omega, ?_⟩, ?_, ?_, ?_⟩
  · rw [lPulse_v (by decide)]; unfold aPulse; rw [if_neg n0, if_pos rfl, e1, e2, pkSub e4, nI_l (by omega)]
  · rw [lPulse_v (by decide)]; unfold aPulse; rw [if_neg n0, if_neg (by decide), if_pos rfl, ha, nI_l (by omega)]
  · rw [lPulse_v (by decide)]; unfold aPulse; rw [if_neg n0, if_neg (by decide), if_neg (by decide), if_pos rfl, hd, nI_l (by omega)]
  · rcases hs with z | z
    · exact ⟨0, by omega, by rw [lPulse_v (by decide)]; unfold aPulse; rw [if_neg n0, if_neg (by decide), if_neg (by decide), if_neg (by decide), z]; decide⟩
    · exact ⟨1, by omega, by rw [lPulse_v (by decide)]; unfold aPulse; rw [if_neg n0, if_neg (by decide), if_neg (by decide), if_neg (by decide), z]; decide⟩
theorem fFate {lf k : Nat} (h : R 47 = nI lf) (hl : lf ≤ 60) (hk : k < 2 ^ 31) : lFate R (nI k) = if k < lf then (tr R lf k).toInt64 else -9 := by
  unfold lFate
  rw [lC_0 (if_neg (nI_pos hk)), h, nI_clamp (by omega), nI_clamp hk]
  unfold aFate tr
  split
  · rfl
  · decide
theorem fCnt (ha : KA R c r) {i : Nat} (hi : i < 4) : nC (tr R (min (nS c 4) 60)) (nI i) (min (nS c 4) 60) ≤ c i := ha.2.2.2.2.2.2.2 i hi
theorem fCnt4 (ha : KA R c r) : nC (tr R (min (nS c 4) 60)) (nI 0) (min (nS c 4) 60) + nC (tr R (min (nS c 4) 60)) (nI 1) (min (nS c 4) 60) + nC (tr R (min (nS c 4) 60)) (nI 2) (min (nS c 4) 60) + nC (tr R (min (nS c 4) 60)) (nI 3) (min (nS c 4) 60) = min (nS c 4) 60 :=
  nC_four _ ha.2.2.2.2.2.2.1
theorem fCntE (ha : KA R c r) (h : nS c 4 ≤ 60) {i : Nat} (hi : i < 4) : nC (tr R (min (nS c 4) 60)) (nI i) (min (nS c 4) 60) = c i := by
  have q := fCnt4 ha
  have q0 := fCnt ha (i := 0) (by decide)
  have q1 := fCnt ha (i := 1) (by decide)
  have q2 := fCnt ha (i := 2) (by decide)
  have q3 := fCnt ha (i := 3) (by decide)
  have s : nS c 4 = c 0 + c 1 + c 2 + c 3 := by simp only [nS, Nat.zero_add]
  have : i = 0 ∨ i = 1 ∨ i = 2 ∨ i = 3 := by omega
  rcases this with rfl | rfl | rfl | rfl <;> omega
theorem kdPat1 {i : Nat} (hi : i < 4) : kdPat 1 (nI i) = 0 := by
  have : i = 0 ∨ i = 1 ∨ i = 2 ∨ i = 3 := by omega
  rcases this with rfl | rfl | rfl | rfl <;> decide
theorem kSum_bI {g : Nat → Int32} {v : Int32} : ∀ n, kSum (fun t => bI (g t = v)) n = nI (nC g v n)
  | 0 => rfl
  | n + 1 => by
    unfold kSum nC
    rw [kSum_bI n, ← nI_add]
    congr 1
    unfold bI
    split <;> rfl
theorem fPat {lf i : Nat} (h : R 47 = nI lf) (hl : lf ≤ 60) (hi : i < 4) : lPattern R 1 (nI i) = lN (nC (tr R lf) (nI i) lf) := by
  have hc := nC_le (f := tr R lf) (v := nI i) lf
  unfold lPattern
  rw [lC_0 (kdPat1 hi), h, nI_clamp (by omega), show (1 : Int32).toNatClampNeg = 1 by decide]
  have e : aPat R lf 1 (nI i) = nI (nC (tr R lf) (nI i) lf) := by
    unfold aPat
    rw [← kSum_bI, show lf + 1 - 1 = lf by omega]
    refine kSum_congr lf fun t ht => ?_
    have e1 : nI i - nI i / 10 * 10 = nI i := by rw [show (10 : Int32) = nI 10 from rfl, pkR i 10 (by omega) (by decide) (by decide), Nat.mod_eq_of_lt (by omega)]
    have e2 : kStB (fun j => R (48 + (lf - 1 - j))) t (nI i) 1 = decide (tr R lf t = nI i) := by
      unfold kStB kStB kDg
      rw [e1, Bool.true_and]
      rfl
    rw [e2]
    unfold bI
    simp only [decide_eq_true_eq]
  rw [e, nI_l (by omega)]
theorem fLong {lf i : Nat} (h : R 47 = nI lf) (hl : lf ≤ 60) (hi : i < 4) : ∃ q, lLongest R (nI i) = lN q ∧ q ≤ nC (tr R lf) (nI i) lf ∧ (q = 0 ↔ nC (tr R lf) (nI i) lf = 0) := by
  have kd : kdO (nI i) 0 3 = 0 := by
    have : i = 0 ∨ i = 1 ∨ i = 2 ∨ i = 3 := by omega
    rcases this with rfl | rfl | rfl | rfl <;> decide
  have le := nLong_le (fun j => decide (R (48 + j) = nI i)) lf
  obtain ⟨s, s1, s2⟩ := (nLong_has (fun j => decide (R (48 + j) = nI i)) lf).1
  have mx := (nLong_max (fun j => decide (R (48 + j) = nI i)) lf).1
  have rv : nC (tr R lf) (nI i) lf = nC (fun j => R (48 + j)) (nI i) lf := nC_rev (g := fun j => R (48 + j)) lf
  refine ⟨(nLong (fun j => decide (R (48 + j) = nI i)) lf).1, ?_, ?_, ?_⟩
  · unfold lLongest aLong
    rw [lC_0 kd, h, nI_clamp (by omega), nI_l (by omega)]
  · rw [rv]
    exact nC_run lf s1 (fun j j1 j2 => of_decide_eq_true (s2 j j1 j2))
  · rw [rv]
    constructor
    · intro z
      refine nC_zero lf fun j hj e => ?_
      have := mx j 1 (by omega) (fun j' a b => by rw [show j' = j by omega]; exact decide_eq_true e)
      omega
    · intro z
      have := nC_run (g := fun j => R (48 + j)) (v := nI i) lf s1 (fun j j1 j2 => of_decide_eq_true (s2 j j1 j2))
      omega
/-- what the record would give: each of its drops has one of four fates -/
theorem fRepN {w d : Int32} {i : Nat} : ∀ k, aRep R w d (nI i) k = nI (nC (fun k => nI (rDrF (rPlay R w d k) (R (109 + 2 * k)) (R (110 + 2 * k)))) (nI i) k)
  | 0 => rfl
  | k + 1 => by
    unfold aRep nC
    rw [fRepN k]
    split
    · rw [nI_1]
    · rfl
theorem fRep {w d : Int32} {i : Nat} (k0 : kdSet 1 w = 0) (k1 : kdSet 2 d = 0) (hi : i < 4) (hn : xLr R ≤ 40) : lReplay R w d (nI i) = lN (nC (fun k => nI (rDrF (rPlay R w d k) (R (109 + 2 * k)) (R (110 + 2 * k)))) (nI i) (xLr R)) := by
  have kd : kdRep w d (nI i) = 0 := by
    unfold kdRep
    have : i = 0 ∨ i = 1 ∨ i = 2 ∨ i = 3 := by omega
    rw [if_pos ⟨k0, k1, by rcases this with rfl | rfl | rfl | rfl <;> decide⟩]
  have := nC_le (f := fun k => nI (rDrF (rPlay R w d k) (R (109 + 2 * k)) (R (110 + 2 * k)))) (v := nI i) (xLr R)
  unfold lReplay
  rw [lC_0 kd, fRepN, nI_l (by omega)]
theorem fRep4 {w d : Int32} (n : Nat) : nC (fun k => nI (rDrF (rPlay R w d k) (R (109 + 2 * k)) (R (110 + 2 * k)))) (nI 0) n + nC (fun k => nI (rDrF (rPlay R w d k) (R (109 + 2 * k)) (R (110 + 2 * k)))) (nI 1) n + nC (fun k => nI (rDrF (rPlay R w d k) (R (109 + 2 * k)) (R (110 + 2 * k)))) (nI 2) n + nC (fun k => nI (rDrF (rPlay R w d k) (R (109 + 2 * k)) (R (110 + 2 * k)))) (nI 3) n = n :=
  nC_four n fun _ _ => ⟨_, rFt_lt, rfl⟩
theorem kdSetW {k lo hi : Nat} {v : Int32} (hk : k ≤ 4) (h : nb v lo hi) (h1 : xLeast k = nI lo) (h2 : xGreatest k = nI hi) (h3 : hi < 2 ^ 31) : kdSet (nI k) v = 0 := by
  obtain ⟨j, j1, j2, rfl⟩ := h
  unfold kdSet
  rw [if_pos]
  refine ⟨fun q => q.elim (nI_pos (by omega)) (fun q => absurd ((nI_ltI (a := 4) (by decide) (by omega)).mp q) (by omega)), ?_⟩
  rw [nI_clamp (by omega)]
  exact xOkS hk h1 h2 j1 j2 h3
theorem fSet {k : Nat} (hk : k < 5) : lSetting R (nI k) = (R (1 + k)).toInt64 := by
  have kd : kdO (nI k) 0 4 = 0 := by
    have : k = 0 ∨ k = 1 ∨ k = 2 ∨ k = 3 ∨ k = 4 := by omega
    rcases this with rfl | rfl | rfl | rfl | rfl <;> decide
  unfold lSetting
  rw [lC_0 kd, nI_clamp (by omega)]
theorem fQuiet {v : Nat} (h : rLev R (R 0) = nI v) (hv : v ≤ 5000) : lQuietIn R (nI v) = 0 := by
  have kd : kdO (nI v) 0 5000 = 0 := by
    unfold kdO
    rw [if_neg (fun q => q.elim (nI_pos (by omega)) (fun q => absurd ((nI_ltI (a := 5000) (by decide) (by omega)).mp q) (by omega)))]
  have e : aQuiet R (nI v) = 0 := by
    unfold aQuiet
    rw [aQui_yes]
    rw [show R 0 + nI 0 = R 0 from Int32.add_zero _, h]
    exact decide_eq_true (Int32.lt_irrefl)
  unfold lQuietIn
  rw [lC_0 kd, e]
  rfl
end P81
section C81
variable {E : xEnv} {l : Launch}
theorem c_L_in {q : xS} (v a b : Int64) : Con E l Y_L_in [.long v, .long a, .long b] q (xR (some (.int (bI (¬ v < a ∧ ¬ b < v)))) q) xF := by
  refine Con.mk 0 mp_L_in rfl (ls := [some (.long v), none, some (.long a), none, some (.long b), none]) rfl (Nat.le_of_ble_eq_true rfl) ?_
  refine V_lld0 dL_in_0 ?_
  refine V_lld2 dL_in_1 ?_
  refine V_lb_lt (tgt := 17) dL_in_2 dL_in_3 (by decide) (fun h3 => ?_) (fun h3 => ?_)
  · refine V_iconst (v := 0) dL_in_17 (by decide) ?_
    exact V_zret rfl dL_in_18 (Or.inl rfl) (by first | decide | (show _ ≤ 0; dsimp only; omega)) (by first | decide | (show _ ≤ 0; dsimp only; omega)) ⟨by simp [bI, *], rfl⟩
  · refine V_lld0 dL_in_6 ?_
    refine V_lld4 dL_in_7 ?_
    refine V_lb_gt (tgt := 17) dL_in_9 dL_in_10 (by decide) (fun h10 => ?_) (fun h10 => ?_)
    · refine V_iconst (v := 0) dL_in_17 (by decide) ?_
      exact V_zret rfl dL_in_18 (Or.inl rfl) (by first | decide | (show _ ≤ 0; dsimp only; omega)) (by first | decide | (show _ ≤ 0; dsimp only; omega)) ⟨by simp [bI, *], rfl⟩
    · refine V_iconst (v := 1) dL_in_13 (by decide) ?_
      refine V_goto (tgt := 18) dL_in_14 (by decide) ?_
      exact V_zret rfl dL_in_18 (Or.inr rfl) (by first | decide | (show _ ≤ 0; dsimp only; omega)) (by first | decide | (show _ ≤ 0; dsimp only; omega)) ⟨by simp [bI, *], rfl⟩
/-- what is drawn of a script of n ints -/
def dDr (n : Nat) (xs : Nat → Int32) (k : Nat) : Int32 := (if k < n then xs k else 15593287 * nI k + 10369) &&& 2147483647
theorem c_L_draw {q : xS} (hN : E.2.2.2.1 < 2 ^ 31) {k : Nat} (hk : k < 2 ^ 31) : Con E l Y_L_draw [.ref 2, .int (nI k)] q (xR (some (.int (dDr E.2.2.2.1 E.2.2.2.2 k))) q) xF := by
  refine Con.mk 0 mp_L_draw rfl (ls := [some (.ref 2), some (.int (nI k))]) rfl (Nat.le_of_ble_eq_true rfl) ?_
  refine V_ild1 dL_draw_0 ?_
  refine V_ald0 dL_draw_1 ?_
  refine V_len2 dL_draw_2 ?_
  refine V_icmp_ge (tgt := 12) dL_draw_3 (by decide) (fun h3 => ?_) (fun h3 => ?_)
  · refine V_ldc dL_draw_12 mk_L_7 ?_
    refine V_ild1 dL_draw_14 ?_
    refine V_imul dL_draw_15 ?_
    refine V_sipush (v := 10369) dL_draw_16 (by decide) ?_
    refine V_iadd dL_draw_19 ?_
    refine V_ldc dL_draw_20 mk_L_8 ?_
    refine V_iand dL_draw_22 ?_
    exact V_iret rfl dL_draw_23 (by first | decide | (show _ ≤ 0; dsimp only; omega)) (by first | decide | (show _ ≤ 0; dsimp only; omega)) ⟨by unfold dDr; first | rw [if_pos ((nI_ltI hk hN).mp h3)] | rw [if_neg (fun q => h3 (nI_lt q hN))], rfl⟩
  · refine V_ald0 dL_draw_6 ?_
    refine V_ild1 dL_draw_7 ?_
    refine V_ro2 (j := k) rfl ((nI_ltI hk hN).mp h3) (by omega) dL_draw_8 ?_
    refine V_goto (tgt := 20) dL_draw_9 (by decide) ?_
    refine V_ldc dL_draw_20 mk_L_8 ?_
    refine V_iand dL_draw_22 ?_
    exact V_iret rfl dL_draw_23 (by first | decide | (show _ ≤ 0; dsimp only; omega)) (by first | decide | (show _ ≤ 0; dsimp only; omega)) ⟨by unfold dDr; first | rw [if_pos ((nI_ltI hk hN).mp h3)] | rw [if_neg (fun q => h3 (nI_lt q hN))], rfl⟩
end C81

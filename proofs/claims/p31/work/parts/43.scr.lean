/-! ===== the whole object: best window, scripts, simulations ===== -/
def kdScr (n : Int32) (s : Int64) : Nat := if n < 1 ∨ 3 < n then 1 else if s < 0 ∨ kWg s n.toNatClampNeg ≠ 0 then 1 else 0
def gScr (t m i : Nat) : Nat := t / 100000 ^ (m - 1 - i) % 100000
def aScr (g : Nat → Nat) : Nat → Nat → xRow → Int32
  | 0, _, _ => -9
  | r + 1, i, R => if rCmdB R (g i) = true then aScr g r (i + 1) (rCmdR R (g i)) else nI i
def simX (s : Int64) : Nat → Int64
  | 0 => s
  | k + 1 => simX s k * 6364136223846793005 + 1442695040888963407
def simN (x : Int64) : Nat := x.toBitVec.toNat / 8589934592
def simQ (R : xRow) (s : Int64) : Nat → xRow
  | 0 => R
  | k + 1 => if simN (simX s (k + 1)) % 16 = 0 then upR (simQ R s k) 1 (nI (simN (simX s (k + 1)) / 16 % 41)) else rDr (simQ R s k) (nI (simN (simX s (k + 1)) / 1024 % 12)) (nI (1 + simN (simX s (k + 1)) / 16 % 60))
def simA (R : xRow) (s : Int64) : Nat → Int32
  | 0 => 0
  | k + 1 => if simN (simX s (k + 1)) % 16 = 0 then simA R s k else simA R s k + kWt (rDrF (simQ R s k) (nI (simN (simX s (k + 1)) / 1024 % 12)) (nI (1 + simN (simX s (k + 1)) / 16 % 60)))
section P43
variable {M M' : xMem} {L L' : xLng} {o s p a b : Nat} {R R' Q : xRow} {T B c w lf v lr : Nat} {S : xSp}
theorem WFr.cmd (h : WFr Q T B) (hT : T ≤ 10000000) (hB : B < 2 ^ 30) {k : Nat} (hk : k < 100000) : WFr (rCmdR Q k) (T + 99) (B + 216000) := by
  unfold rCmdR
  split
  next b =>
    split
    next c => rw [rCmdB_1 c, decide_eq_true_eq] at b; exact (h.dr (d := k / 100 % 100) (by omega) (by omega) hB).mono (by omega) (by omega)
    split
    next c => exact (h.go (d := k % 100)).mono (by omega) (by omega)
    split
    next c =>
      rw [rCmdB_3 c, decide_eq_true_eq] at b
      unfold kdSet at b
      split at b
      next q =>
        have e : (nI (k / 1000 % 10)).toNatClampNeg = k / 1000 % 10 := nI_clamp (by omega)
        rw [e] at q
        have q1 := q.1
        rw [not_or, show (4 : Int32) < nI (k / 1000 % 10) ↔ 4 < k / 1000 % 10 from nI_ltI (by decide) (by omega)] at q1
        exact (h.set (k := k / 1000 % 10) (by omega) q.2).mono (by omega) (by omega)
      next q => exact absurd b (by decide)
    · exact h.mono (by omega) (by omega)
  · exact h.mono (by omega) (by omega)
theorem simN_lt (x : Int64) : simN x < 2 ^ 31 := by
  have : x.toBitVec.toNat < 2 ^ 64 := x.toBitVec.isLt
  unfold simN; omega
theorem sim_r (x : Int64) : ((x.toUInt64 >>> ((33 : Int32).toInt64.toUInt64 &&& Int64.toUInt64 63)).toInt64).toInt32 = nI (simN x) := by
  have h := simN_lt x
  have e : (x.toUInt64 >>> ((33 : Int32).toInt64.toUInt64 &&& Int64.toUInt64 63)).toInt64 = lN (simN x) := by
    apply Int64.toBitVec_inj.mp
    apply BitVec.eq_of_toNat_eq
    have e1 : (x.toUInt64 >>> ((33 : Int32).toInt64.toUInt64 &&& Int64.toUInt64 63)).toInt64.toBitVec.toNat = (x.toUInt64 >>> ((33 : Int32).toInt64.toUInt64 &&& Int64.toUInt64 63)).toNat := rfl
    have e2 : (lN (simN x)).toBitVec.toNat = simN x := (BitVec.toNat_ofNat (simN x) 64).trans (Nat.mod_eq_of_lt (by omega))
    have e3 : ((33 : Int32).toInt64.toUInt64 &&& Int64.toUInt64 63).toNat % 64 = 33 := by decide
    rw [e1, e2, UInt64.toNat_shiftRight, e3, Nat.shiftRight_eq_div_pow]
    rfl
  rw [e, lN_i]
theorem kWg_n {t : Nat} (ht : t < 2 ^ 63) : ∀ m, kWg (lN t) m = lN (t / 100000 ^ m)
  | 0 => by rw [Nat.pow_zero, Nat.div_one]; rfl
  | m + 1 => by
    unfold kWg
    rw [kWg_n ht m, show lN (t / 100000 ^ m) / 100000 = lN (t / 100000 ^ m / 100000) from pk_lDiv (b := 100000) (Nat.lt_of_le_of_lt (Nat.div_le_self _ _) ht) (by decide) (by decide), Nat.div_div_eq_div_mul, Nat.pow_succ]
end P43
section C43
variable {E : xEnv} {l : Launch} {x : Bool} {n : Nat} {K : xKnd} {G : xRef} {M : xMem} {L : xLng} {o T B : Nat} {S : xSp}
theorem c_X5_bestWindow (hl9 : l.stackTraces = false) (h : rX n K G o) (hc : CRel M L o S) (hw : WFS S T B) (hT : T ≤ 250000) (law : Int32) :
    Con E l Y_X5_bestWindow [.ref o, .int law] (x, n, K, G, M, L) (xG (kdO law 0 2) (some (.int (aBest S.2.2.1 law 21).1)) S o x n K G M L) (xC (kdO law 0 2) nsA (x, n, K, G, M, L)) := by
  have hr := h
  obtain ⟨h0, -, -, g1, ⟨h10, gp, hp, ga, ha⟩, -, -, g3, ⟨h30, gr, hrp, -⟩, -⟩ := h
  have ha0 := ha.1
  obtain ⟨hp0, gs, hss, -⟩ := hp
  have hrp0 := hrp.1
  obtain ⟨N, hN⟩ : ∃ N, N = 21 := ⟨21, rfl⟩
  rw [show (aBest S.2.2.1 law 21).1 = (aBest S.2.2.1 law N).1 by rw [hN]]
  have loop : kdO law 0 2 = 0 → ∀ (r k : Nat) (M1 : xMem) (o8 : Option Value), r + k = N → CRel M1 L o S → (∀ k i, (k < o + 34 ∨ o + 39 < k) → M1 k i = M k i) →
      V E l Y_X5_bestWindow (xQm E Y_X5_bestWindow (xG (kdO law 0 2) (some (.int (aBest S.2.2.1 law N).1)) S o x n K G M L) (xC (kdO law 0 2) nsA (x, n, K, G, M, L))) (x, n, K, G, M1, L) (0, 0) 47
        [some (.ref o), some (.int law), some (.long (rDue S.2.2.1 (xLr S.2.2.1))), none, some (.int (aBest S.2.2.1 law k).1), some (.long (aBest S.2.2.1 law k).2), none, some (.int (nI k)), o8, none] [] := by
    intro kd r
    induction r with
    | zero =>
      intro k M1 o8 hk c1 m1
      have e : k = N := by omega
      subst e
      refine V_ild7 dX5_bestWindow_47 ?_
      refine V_gets (Y := Y_X5_bestWindow) (k := 1) (Or.inr ⟨rfl, rfl⟩) mg_X5_278 dX5_bestWindow_49 ?_
      refine V_iconst (v := 1) dX5_bestWindow_52 (by decide) ?_
      refine V_ro1 (j := 1) (by decide) (by decide) dX5_bestWindow_53 ?_
      refine V_icmp_gt (tgt := 137) dX5_bestWindow_54 (by decide) (fun h54 => ?_) (fun h54 => ?_)
      · refine V_ild4 dX5_bestWindow_137 ?_
        exact V_iret rfl dX5_bestWindow_139 (by decide) (by decide) ⟨kd, rfl, _, _, rfl, c1, fun k hk => ⟨fun i => m1 _ _ (by omega), fun i => rfl⟩⟩
      · exact absurd (show xGreatest 1 < nI k from nI_lt (a := 20) (by omega) (by omega)) h54
    | succ r ih =>
      intro k M1 o8 hk c1 m1
      obtain ⟨w9, lf, v, lr, hal⟩ := c1.2.2.1
      have e3 : M1 (o + 3 + 1 + 1) 2 = S.2.2.1 3 := hal.1.2.2.2.2.2.2.2.1 2 (by decide)
      have key : ∀ (M2 : xMem) (bb : Int32) (ee : Int64) (o8 : Option Value), bb = (aBest S.2.2.1 law (k + 1)).1 → ee = (aBest S.2.2.1 law (k + 1)).2 → CRel M2 L o S → (∀ k i, (k < o + 34 ∨ o + 39 < k) → M2 k i = M k i) →
          V E l Y_X5_bestWindow (xQm E Y_X5_bestWindow (xG (kdO law 0 2) (some (.int (aBest S.2.2.1 law N).1)) S o x n K G M L) (xC (kdO law 0 2) nsA (x, n, K, G, M, L))) (x, n, K, G, M2, L) (0, 0) 131
          [some (.ref o), some (.int law), some (.long (rDue S.2.2.1 (xLr S.2.2.1))), none, some (.int bb), some (.long ee), none, some (.int (nI k)), o8, none] [] := by
        intro M2 bb ee o8 e1 e2 c2 m2
        subst e1 e2
        refine V_inc7 dX5_bestWindow_131 rfl (nI_1 k) ?_
        refine V_goto (tgt := 47) dX5_bestWindow_134 (by decide) ?_
        exact ih (k + 1) M2 _ (by omega) c2 m2
      have d9 : nb (S.2.2.1 3) 1 9 := hw.1.2.2.1
      have w20 : nb (nI k) 0 20 := ⟨k, Nat.zero_le _, by omega, rfl⟩
      refine V_ild7 dX5_bestWindow_47 ?_
      refine V_gets (Y := Y_X5_bestWindow) (k := 1) (Or.inr ⟨rfl, rfl⟩) mg_X5_278 dX5_bestWindow_49 ?_
      refine V_iconst (v := 1) dX5_bestWindow_52 (by decide) ?_
      refine V_ro1 (j := 1) (by decide) (by decide) dX5_bestWindow_53 ?_
      refine V_icmp_gt (tgt := 137) dX5_bestWindow_54 (by decide) (fun h54 => ?_) (fun h54 => ?_)
      · exact absurd h54 (show ¬ xGreatest 1 < nI k from nI_nlt (a := 20) (by omega) (by omega))
      · refine V_ald0 dX5_bestWindow_57 ?_
        refine V_ild7 dX5_bestWindow_58 ?_
        refine V_ald0 dX5_bestWindow_60 ?_
        refine V_getR fd_X5_19 dX5_bestWindow_61 (by assumption) (by assumption) rfl ?_
        refine V_getR fd_X5_109 dX5_bestWindow_64 (by assumption) (by assumption) rfl ?_
        refine V_getR fd_X5_152 dX5_bestWindow_67 (by assumption) (by assumption) rfl ?_
        refine V_iconst (v := 2) dX5_bestWindow_70 (by decide) ?_
        refine V_iald (j := 2) dX5_bestWindow_71 (by assumption) (by decide) (by decide) ?_
        rw [e3]
        refine V_iconst (v := 0) dX5_bestWindow_72 (by decide) ?_
        refine V_cv3P lk_X5_267 cc_X5_replayRecord dX5_bestWindow_73 (by assumption) (c_X5_replayRecord hr c1 hw hT w20 d9 0) ft_X5_bestWindow_X5_replayRecord (Nat.le_of_ble_eq_true rfl) (fun o9 q9 hq9 => ?_)
        obtain ⟨M2, rfl, rfl, a1, a2⟩ := hq9
        have wq := hw.1.play w20 d9 hT (xLr S.2.2.1) (Nat.le_refl _)
        have a3 := a1.clo wq
        have m3 : ∀ k i, (k < o + 34 ∨ o + 39 < k) → kClose M2 (o + 33 + 1) k i = M k i := fun k i q => by rw [kClose_k (by omega), a2 k i q, m1 k i q]
        have c3 : CRel (kClose M2 (o + 33 + 1)) L o S := c1.scr (fun k i q1 q2 q3 => by rw [kClose_k (by omega), a2 _ _ (by omega)]) (fun k q => rfl)
        show V E l _ _ _ (0, 0) 76 _ [_]
        refine V_pop dX5_bestWindow_76 rfl ?_
        refine V_ald0 dX5_bestWindow_77 ?_
        refine V_getR fd_X5_26 dX5_bestWindow_78 (by assumption) (by assumption) rfl ?_
        refine V_getR fd_X5_109 dX5_bestWindow_81 (by assumption) (by assumption) rfl ?_
        refine V_cv0U lk_X5_281 cc_X2_closePulse dX5_bestWindow_84 (by assumption) (c_X2_closePulse hrp) ft_X5_bestWindow_X2_closePulse rfl rfl (Nat.le_of_ble_eq_true rfl) ?_
        refine V_ald0 dX5_bestWindow_87 ?_
        refine V_getR fd_X5_26 dX5_bestWindow_88 (by assumption) (by assumption) rfl ?_
        refine V_getR fd_X5_109 dX5_bestWindow_91 (by assumption) (by assumption) rfl ?_
        refine V_ild1 dX5_bestWindow_94 ?_
        refine V_cv1R lk_X5_209 cc_X2_reckonedRain dX5_bestWindow_95 (by assumption) (c_X2_reckonedRain hrp law) ft_X5_bestWindow_X2_reckonedRain rfl rfl (Nat.le_of_ble_eq_true rfl) ?_
        rw [a3.rain law 8 (Nat.le_refl _)]
        refine V_lld2 dX5_bestWindow_98 ?_
        refine V_lsub dX5_bestWindow_99 ?_
        refine V_absL ml_X5_284 mst_abs mo_3 mcd_abs dX5_bestWindow_100 (by decide) (by decide) (by decide) (by decide) (Nat.le_of_ble_eq_true rfl) ?_
        rw [show (if 0 < aRain (rClo (rPlay S.2.2.1 (nI k) (S.2.2.1 3) (xLr S.2.2.1))) law 8 - rDue S.2.2.1 (xLr S.2.2.1) then aRain (rClo (rPlay S.2.2.1 (nI k) (S.2.2.1 3) (xLr S.2.2.1))) law 8 - rDue S.2.2.1 (xLr S.2.2.1) else -(aRain (rClo (rPlay S.2.2.1 (nI k) (S.2.2.1 3) (xLr S.2.2.1))) law 8 - rDue S.2.2.1 (xLr S.2.2.1))) = rErr S.2.2.1 law (nI k) from rfl]
        refine V_lst8 dX5_bestWindow_103 rfl (by decide) ?_
        refine V_ild7 dX5_bestWindow_105 ?_
        refine V_gets (Y := Y_X5_bestWindow) (k := 0) (Or.inl ⟨rfl, rfl⟩) mg_X5_275 dX5_bestWindow_107 ?_
        refine V_iconst (v := 1) dX5_bestWindow_110 (by decide) ?_
        refine V_ro0 (j := 1) (by decide) (by decide) dX5_bestWindow_111 ?_
        refine V_icmp_eq (tgt := 123) dX5_bestWindow_112 (by decide) (fun h112 => ?_) (fun h112 => ?_)
        · refine V_lld8 dX5_bestWindow_123 ?_
          refine V_lst5 dX5_bestWindow_125 rfl (by decide) ?_
          refine V_ild7 dX5_bestWindow_127 ?_
          refine V_ist4 dX5_bestWindow_129 rfl (by decide) ?_
          first
          | exact key _ _ _ _ (by rw [aBest, if_pos (Or.inl ((nI_eq (b := 0) (by omega) (by decide)).mp h112))]) (by rw [aBest, if_pos (Or.inl ((nI_eq (b := 0) (by omega) (by decide)).mp h112))]) c3 m3
          | exact key _ _ _ _ (by rw [aBest, if_pos (Or.inr ((lg_cmp_lt _ _).mp h120))]) (by rw [aBest, if_pos (Or.inr ((lg_cmp_lt _ _).mp h120))]) c3 m3
          | exact key _ _ _ _ (by rw [aBest, if_neg (fun q => q.elim (fun q => h112 (by rw [q]; rfl)) (fun q => h120 ((lg_cmp_lt _ _).mpr q)))]) (by rw [aBest, if_neg (fun q => q.elim (fun q => h112 (by rw [q]; rfl)) (fun q => h120 ((lg_cmp_lt _ _).mpr q)))]) c3 m3
        · refine V_lld8 dX5_bestWindow_115 ?_
          refine V_lld5 dX5_bestWindow_117 ?_
          refine V_lcmp dX5_bestWindow_119 ?_
          refine V_if_ge (tgt := 131) dX5_bestWindow_120 (by decide) (fun h120 => ?_) (fun h120 => ?_)
          · first
            | exact key _ _ _ _ (by rw [aBest, if_pos (Or.inl ((nI_eq (b := 0) (by omega) (by decide)).mp h112))]) (by rw [aBest, if_pos (Or.inl ((nI_eq (b := 0) (by omega) (by decide)).mp h112))]) c3 m3
            | exact key _ _ _ _ (by rw [aBest, if_pos (Or.inr ((lg_cmp_lt _ _).mp h120))]) (by rw [aBest, if_pos (Or.inr ((lg_cmp_lt _ _).mp h120))]) c3 m3
            | exact key _ _ _ _ (by rw [aBest, if_neg (fun q => q.elim (fun q => h112 (by rw [q]; rfl)) (fun q => h120 ((lg_cmp_lt _ _).mpr q)))]) (by rw [aBest, if_neg (fun q => q.elim (fun q => h112 (by rw [q]; rfl)) (fun q => h120 ((lg_cmp_lt _ _).mpr q)))]) c3 m3
          · refine V_lld8 dX5_bestWindow_123 ?_
            refine V_lst5 dX5_bestWindow_125 rfl (by decide) ?_
            refine V_ild7 dX5_bestWindow_127 ?_
            refine V_ist4 dX5_bestWindow_129 rfl (by decide) ?_
            first
            | exact key _ _ _ _ (by rw [aBest, if_pos (Or.inl ((nI_eq (b := 0) (by omega) (by decide)).mp h112))]) (by rw [aBest, if_pos (Or.inl ((nI_eq (b := 0) (by omega) (by decide)).mp h112))]) c3 m3
            | exact key _ _ _ _ (by rw [aBest, if_pos (Or.inr ((lg_cmp_lt _ _).mp h120))]) (by rw [aBest, if_pos (Or.inr ((lg_cmp_lt _ _).mp h120))]) c3 m3
            | exact key _ _ _ _ (by rw [aBest, if_neg (fun q => q.elim (fun q => h112 (by rw [q]; rfl)) (fun q => h120 ((lg_cmp_lt _ _).mpr q)))]) (by rw [aBest, if_neg (fun q => q.elim (fun q => h112 (by rw [q]; rfl)) (fun q => h120 ((lg_cmp_lt _ _).mpr q)))]) c3 m3
  obtain ⟨w9, lf, v, lr, hal⟩ := id hc.2.2.1
  have el := hal.rlen
  refine Con.mk 8 mp_X5_bestWindow rfl (ls := [some (.ref o), some (.int law), none, none, none, none, none, none, none, none]) rfl (Nat.le_of_ble_eq_true rfl) ?_
  refine V_ild1 dX5_bestWindow_0 ?_
  refine V_iconst (v := 0) dX5_bestWindow_1 (by decide) ?_
  refine V_iconst (v := 2) dX5_bestWindow_2 (by decide) ?_
  refine V_cs3R lk_X5_53 cc_X5_isOutside dX5_bestWindow_3 (c_X5_isOutside _ _ _) ft_X5_bestWindow_X5_isOutside rfl rfl (Nat.le_of_ble_eq_true rfl) ?_
  refine V_if_eq (tgt := 19) dX5_bestWindow_6 (by decide) (fun h6 => ?_) (fun h6 => ?_)
  · rw [bI0] at h6
    refine V_ald0 dX5_bestWindow_19 ?_
    refine V_getR fd_X5_19 dX5_bestWindow_20 (by assumption) (by assumption) rfl ?_
    refine V_getR fd_X5_100 dX5_bestWindow_23 (by assumption) (by assumption) rfl ?_
    refine V_cv0R lk_X5_271 cc_X0_rainOfRecord dX5_bestWindow_26 (by assumption) (c_X0_rainOfRecord ha hal.2.1) ft_X5_bestWindow_X0_rainOfRecord rfl rfl (Nat.le_of_ble_eq_true rfl) ?_
    rw [hal.2.due, ← el]
    refine V_lst2 dX5_bestWindow_29 rfl (by decide) ?_
    refine V_gets (Y := Y_X5_bestWindow) (k := 0) (Or.inl ⟨rfl, rfl⟩) mg_X5_275 dX5_bestWindow_30 ?_
    refine V_iconst (v := 1) dX5_bestWindow_33 (by decide) ?_
    refine V_ro0 (j := 1) (by decide) (by decide) dX5_bestWindow_34 ?_
    refine V_ist4 dX5_bestWindow_35 rfl (by decide) ?_
    refine V_lconst (v := 0) dX5_bestWindow_37 (by decide) ?_
    refine V_lst5 dX5_bestWindow_38 rfl (by decide) ?_
    refine V_gets (Y := Y_X5_bestWindow) (k := 0) (Or.inl ⟨rfl, rfl⟩) mg_X5_275 dX5_bestWindow_40 ?_
    refine V_iconst (v := 1) dX5_bestWindow_43 (by decide) ?_
    refine V_ro0 (j := 1) (by decide) (by decide) dX5_bestWindow_44 ?_
    refine V_ist7 dX5_bestWindow_45 rfl (by decide) ?_
    exact loop (by unfold kdO; rw [if_neg h6]) N 0 M none (by omega) hc (fun _ _ _ => rfl)
  · rw [bI0, Decidable.not_not] at h6
    exact V_throw th_X5_207 hl9 rfl dX5_bestWindow_9 dX5_bestWindow_12 dX5_bestWindow_13 dX5_bestWindow_15 dX5_bestWindow_18 (by decide) (by decide) (by decide) (by decide) (xC_mk 0 (by unfold kdO; rw [if_pos h6]) rfl)
theorem c_X5_runScript (hl9 : l.stackTraces = false) (h : rX n K G o) (hc : CRel M L o S) (hw : WFS S T B) (hT : T ≤ 1000000) (hB : B < 2 ^ 29) (m9 : Int32) (s : Int64) :
    Con E l Y_X5_runScript [.ref o, .int m9, .long s] (x, n, K, G, M, L) (xG (kdScr m9 s) (some (.int (aScr (gScr s.toBitVec.toNat m9.toNatClampNeg) m9.toNatClampNeg 0 S.2.2.1))) S o x n K G M L) (xC (kdScr m9 s) nsA (x, n, K, G, M, L)) := by
  have hr := h
  obtain ⟨h0, -, -, g1, h1, -, -, g3, h3, -⟩ := h
  have h30 := h3.1
  have ip := hc.ipl hw
  have loop : ∀ (m t : Nat), 1 ≤ m → m ≤ 3 → t < 2 ^ 63 → m9 = nI m → s = lN t → kdScr m9 s = 0 → ∀ (r i : Nat) (M1 : xMem) (L1 : xLng) (Q : xRow) (o5 : Option Value), r + i = m → AlE M1 L1 (o + 33) Q → WFr Q (T + 99 * i) (B + 216000 * i) → Fs o M L M1 L1 →
      aScr (gScr s.toBitVec.toNat m9.toNatClampNeg) m9.toNatClampNeg 0 S.2.2.1 = aScr (gScr t m) r i Q →
      V E l Y_X5_runScript (xQm E Y_X5_runScript (xG (kdScr m9 s) (some (.int (aScr (gScr s.toBitVec.toNat m9.toNatClampNeg) m9.toNatClampNeg 0 S.2.2.1))) S o x n K G M L) (xC (kdScr m9 s) nsA (x, n, K, G, M, L))) (x, n, K, G, M1, L1) (0, 0) 61
        [some (.ref o), some (.int m9), some (.long s), none, some (.int (nI i)), o5] [] := by
    intro m t m1 m3 ht em es kd r
    generalize aScr (gScr s.toBitVec.toNat m9.toNatClampNeg) m9.toNatClampNeg 0 S.2.2.1 = A
    subst em es
    induction r with
    | zero =>
      intro i M1 L1 Q o5 hi hA wQ f1 he
      have e : i = m := by omega
      subst e
      refine V_ild4 dX5_runScript_61 ?_
      refine V_ild1 dX5_runScript_63 ?_
      refine V_icmp_ge (tgt := 102) dX5_runScript_64 (by decide) (fun h64 => ?_) (fun h64 => ?_)
      · refine V_bipush (v := (-9)) dX5_runScript_102 (by decide) ?_
        exact V_iret rfl dX5_runScript_104 (by decide) (by decide) ⟨kd, by rw [he]; rfl, _, _, rfl, hc.tri f1, f1.fr⟩
      · exact absurd h64 (nI_nlt (Nat.le_refl i) (by omega))
    | succ r ih =>
      intro i M1 L1 Q o5 hi hA wQ f1 he
      have e1 : nI m - 1 - nI i = nI (m - 1 - i) := by rw [show nI m - 1 = nI (m - 1) from pkSub (b := 1) m1]; exact pkSub (by omega)
      have e2 : (lN (t / 100000 ^ (m - 1 - i)) - lN (t / 100000 ^ (m - 1 - i)) / 100000 * 100000).toInt32 = nI (gScr t m i) := by
        rw [show lN (t / 100000 ^ (m - 1 - i)) - lN (t / 100000 ^ (m - 1 - i)) / 100000 * 100000 = lN (t / 100000 ^ (m - 1 - i) % 100000) from pk_lRem (b := 100000) (Nat.lt_of_le_of_lt (Nat.div_le_self _ _) ht) (by decide) (by decide), lN_i]; rfl
      have g5 : gScr t m i < 100000 := Nat.mod_lt _ (by decide)
      refine V_ild4 dX5_runScript_61 ?_
      refine V_ild1 dX5_runScript_63 ?_
      refine V_icmp_ge (tgt := 102) dX5_runScript_64 (by decide) (fun h64 => ?_) (fun h64 => ?_)
      · exact absurd (nI_lt (by omega) (by omega)) h64
      · refine V_lld2 dX5_runScript_67 ?_
        refine V_ild1 dX5_runScript_68 ?_
        refine V_iconst (v := 1) dX5_runScript_69 (by decide) ?_
        refine V_isub dX5_runScript_70 ?_
        refine V_ild4 dX5_runScript_71 ?_
        refine V_isub dX5_runScript_73 ?_
        rw [e1]
        refine V_cs2R lk_X5_292 cc_X5_withoutLastGroups dX5_runScript_74 (c_X5_withoutLastGroups (m := m - 1 - i) (by omega) _) ft_X5_runScript_X5_withoutLastGroups rfl rfl (Nat.le_of_ble_eq_true rfl) ?_
        rw [kWg_n ht]
        refine V_ldc2 dX5_runScript_77 mk_X5_298 ?_
        refine V_lrem dX5_runScript_80 (by decide) ?_
        refine V_l2i dX5_runScript_81 ?_
        rw [e2]
        refine V_ist5 dX5_runScript_82 rfl (by decide) ?_
        refine V_ald0 dX5_runScript_84 ?_
        refine V_ild5 dX5_runScript_85 ?_
        refine V_cv1P lk_X5_300 cc_X5_runCommand dX5_runScript_87 (by assumption) (c_X5_runCommand hr hA wQ (by omega) (by omega) (k := gScr t m i) g5) ft_X5_runScript_X5_runCommand (Nat.le_of_ble_eq_true rfl) (fun o9 q9 hq9 => ?_)
        obtain ⟨rfl, M2, L2, rfl, a1, f2⟩ := hq9
        show V E l _ _ _ (0, 0) 90 _ [_]
        refine V_if_ne (tgt := 96) dX5_runScript_90 (by decide) (fun h90 => ?_) (fun h90 => ?_)
        · rw [bI0, Decidable.not_not] at h90
          refine V_inc4 dX5_runScript_96 rfl (nI_1 i) ?_
          refine V_goto (tgt := 61) dX5_runScript_99 (by decide) ?_
          exact ih (i + 1) M2 L2 _ _ (by omega) a1 ((wQ.cmd (by omega) (by omega) g5).mono (by omega) (by omega)) (f1.trans f2) (by rw [he, aScr, if_pos h90])
        · rw [bI0] at h90
          refine V_ild4 dX5_runScript_93 ?_
          exact V_iret rfl dX5_runScript_95 (by decide) (by decide) ⟨kd, by rw [he, aScr, if_neg h90], _, _, rfl, hc.tri (f1.trans f2), (f1.trans f2).fr⟩
  refine Con.mk 2 mp_X5_runScript rfl (ls := [some (.ref o), some (.int m9), some (.long s), none, none, none]) rfl (Nat.le_of_ble_eq_true rfl) ?_
  refine V_ild1 dX5_runScript_0 ?_
  refine V_iconst (v := 1) dX5_runScript_1 (by decide) ?_
  refine V_iconst (v := 3) dX5_runScript_2 (by decide) ?_
  refine V_cs3R lk_X5_53 cc_X5_isOutside dX5_runScript_3 (c_X5_isOutside _ _ _) ft_X5_runScript_X5_isOutside rfl rfl (Nat.le_of_ble_eq_true rfl) ?_
  refine V_if_eq (tgt := 20) dX5_runScript_6 (by decide) (fun h6 => ?_) (fun h6 => ?_)
  · rw [bI0] at h6
    have h6' := h6
    rw [not_or] at h6'
    obtain ⟨m, m1, m3, em⟩ := xIdx1 (N := 3) (by decide) h6'.1 h6'.2
    have ek : m9.toNatClampNeg = m := by rw [em, nI_clamp (by omega)]
    refine V_lld2 dX5_runScript_20 ?_
    refine V_lconst (v := 0) dX5_runScript_21 (by decide) ?_
    refine V_lcmp dX5_runScript_22 ?_
    refine V_if_lt (tgt := 36) dX5_runScript_23 (by decide) (fun h23 => ?_) (fun h23 => ?_)
    · first
      | rw [lg_cmp_lt] at h23
      | rw [lg_cmp_eq] at h33
      exact V_throwW th_X5_296 hl9 rfl dX5_runScript_36 dX5_runScript_39 dX5_runScript_40 dX5_runScript_43 dX5_runScript_46 (by decide) (by decide) (by decide) (by decide) (by
  first
  | exact xC_mk 0 (by unfold kdScr; rw [if_neg h6, if_pos (Or.inl h23)]) rfl
  | exact xC_mk 0 (by unfold kdScr; rw [← em, if_neg h6, ek, if_pos (Or.inr h33)]) rfl)
    · rw [lg_cmp_lt] at h23
      rw [em]
      refine V_lld2 dX5_runScript_26 ?_
      refine V_ild1 dX5_runScript_27 ?_
      refine V_cs2R lk_X5_292 cc_X5_withoutLastGroups dX5_runScript_28 (c_X5_withoutLastGroups (m := m) (by omega) s) ft_X5_runScript_X5_withoutLastGroups rfl rfl (Nat.le_of_ble_eq_true rfl) ?_
      refine V_lconst (v := 0) dX5_runScript_31 (by decide) ?_
      refine V_lcmp dX5_runScript_32 ?_
      refine V_if_eq (tgt := 47) dX5_runScript_33 (by decide) (fun h33 => ?_) (fun h33 => ?_)
      · rw [lg_cmp_eq] at h33
        obtain ⟨t, t1, t2⟩ := pk_lOf h23
        have kd : kdScr m9 s = 0 := by unfold kdScr; rw [if_neg h6, if_neg (fun q => q.elim h23 (fun q => q (by rw [ek]; exact h33)))]
        refine V_ald0 dX5_runScript_47 ?_
        refine V_getR fd_X5_26 dX5_runScript_48 (by assumption) (by assumption) rfl ?_
        refine V_ald0 dX5_runScript_51 ?_
        refine V_getR fd_X5_19 dX5_runScript_52 (by assumption) (by assumption) rfl ?_
        refine V_cv1U lk_X5_86 cc_X3_copyFrom dX5_runScript_55 h30 (c_X3_copyFrom h1 h3 (by omega) ip) ft_X5_runScript_X3_copyFrom rfl rfl (Nat.le_of_ble_eq_true rfl) ?_
        refine V_iconst (v := 0) dX5_runScript_58 (by decide) ?_
        refine V_ist4 dX5_runScript_59 rfl (by decide) ?_
        rw [← em]
        refine loop m t m1 m3 t1 em t2 kd m 0 _ _ S.2.2.1 _ (by omega) (hc.2.2.1.cp (by omega)) (hw.1.mono (by omega) (by omega)) ⟨fun k i q => kStCp_k (by omega), fun k i q => kAcCpL_k (by omega)⟩ ?_
        rw [ek, show s.toBitVec.toNat = t by rw [t2]; exact (BitVec.toNat_ofNat t 64).trans (Nat.mod_eq_of_lt (by omega))]
      · first
        | rw [lg_cmp_lt] at h23
        | rw [lg_cmp_eq] at h33
        exact V_throwW th_X5_296 hl9 rfl dX5_runScript_36 dX5_runScript_39 dX5_runScript_40 dX5_runScript_43 dX5_runScript_46 (by decide) (by decide) (by decide) (by decide) (by
  first
  | exact xC_mk 0 (by unfold kdScr; rw [if_neg h6, if_pos (Or.inl h23)]) rfl
  | exact xC_mk 0 (by unfold kdScr; rw [← em, if_neg h6, ek, if_pos (Or.inr h33)]) rfl)
  · rw [bI0, Decidable.not_not] at h6
    exact V_throwW th_X5_290 hl9 rfl dX5_runScript_9 dX5_runScript_12 dX5_runScript_13 dX5_runScript_16 dX5_runScript_19 (by decide) (by decide) (by decide) (by decide) (xC_mk 0 (by unfold kdScr; rw [if_pos h6]) rfl)
end C43

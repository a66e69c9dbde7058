/-! ===== constructors: accounts, states, the whole object, the reference ===== -/
def sNew : xSp := (0, (fun _ => 0), rCln, 0, (fun _ => rCln), (fun _ => false), (fun _ => rCln))
section C72
variable {E : xEnv} {l : Launch} {n b p a s o m : Nat} {K : xKnd} {G : xRef} {M : xMem} {L : xLng}
theorem c_X0_init (hb : xIs n K a 0 6) (hn : n = a + 1) : Con E l Y_X0_init [.ref a] (true, n, K, G, M, L) (fun r q' => r = none ∧ ∃ K' G' M' L', q' = (true, n + 7, K', G', M', L') ∧ Gw n (n + 7) a K K' G G' M M' L L' ∧ rAc (n + 7) K' G' a ∧ Ac0 M' L' a) xF := by
  have h3 : 3 ≤ a := hb.1
  subst hn
  have e1 := hb.nw (z := (10, 4))
  have e2 := e1.nw (z := (1, 3))
  refine Con.mk 0 mp_X0_init rfl (ls := [some (.ref a)]) rfl (Nat.le_of_ble_eq_true rfl) ?_
  refine V_ald0 dX0_init_0 ?_
  refine V_obj ml_X0_3 mo_1 mo_2 dX0_init_1 (by decide) (by decide) (Nat.le_of_ble_eq_true rfl) ?_
  refine V_ald0 dX0_init_4 ?_
  refine V_iconst (v := 4) dX0_init_5 (by decide) ?_
  refine V_newarr (N := 4) (Or.inl ⟨rfl, rfl⟩) ma_int dX0_init_6 (by decide) (by decide) (by decide) (by decide) ?_
  refine V_putR fw_X0_9 dX0_init_8 e1 rfl (Or.inr ⟨_, rfl⟩) rfl ?_
  refine V_ald0 dX0_init_11 ?_
  refine V_lconst (v := 0) dX0_init_12 (by decide) ?_
  refine V_putL fw_X0_15 dX0_init_13 e1 rfl ?_
  refine V_ald0 dX0_init_16 ?_
  refine V_iconst (v := 0) dX0_init_17 (by decide) ?_
  refine V_putI fw_X0_19 dX0_init_18 e1 rfl ?_
  refine V_ald0 dX0_init_21 ?_
  refine V_new mn_X0_23 dX0_init_22 (by decide) (by decide) ?_
  refine V_dup dX0_init_25 rfl ?_
  refine V_bipush (v := 60) dX0_init_26 (by decide) ?_
  refine V_ci1P lk_X0_25 cc_X1_init dX0_init_28 (c_X1_init60 (xIs.new (by omega) (by decide)) rfl) (xFit.mk (by decide) (by decide) (by decide) (by decide)) (Nat.le_of_ble_eq_true rfl) (fun o9 q9 hq9 => ?_)
  obtain ⟨rfl, K1, G1, M1, L1, rfl, ⟨-, fK1, fA1⟩, r1, i1⟩ := hq9
  have fG1 := fun k h1 h2 => (fA1 k h1 h2).1
  have fM1 := fun k h1 h2 => (fA1 k h1 h2).2.1
  have fL1 := fun k h1 h2 => (fA1 k h1 h2).2.2
  have e3 := e2.go (Nat.le_succ _) (fK1 a (by omega))
  have e4 := e3.nw (z := (1, 3))
  show V E l _ _ _ (3, 67) 31 _ [.ref (a + 1 + 1), .ref a]
  refine V_putR fw_X0_28 dX0_init_31 e3 rfl (Or.inl ⟨_, rfl⟩) rfl ?_
  refine V_ald0 dX0_init_34 ?_
  refine V_new mn_X0_23 dX0_init_35 (by decide) (by decide) ?_
  refine V_dup dX0_init_38 rfl ?_
  refine V_bipush (v := 40) dX0_init_39 (by decide) ?_
  refine V_ci1P lk_X0_25 cc_X1_init dX0_init_41 (c_X1_init40 (xIs.new (by omega) (by decide)) rfl) (xFit.mk (by decide) (by decide) (by decide) (by decide)) (Nat.le_of_ble_eq_true rfl) (fun o9 q9 hq9 => ?_)
  obtain ⟨rfl, K2, G2, M2, L2, rfl, ⟨-, fK2, fA2⟩, r2, i2⟩ := hq9
  have fG2 := fun k h1 h2 => (fA2 k h1 h2).1
  have fM2 := fun k h1 h2 => (fA2 k h1 h2).2.1
  have fL2 := fun k h1 h2 => (fA2 k h1 h2).2.2
  have e5 := e4.go (Nat.le_succ _) (fK2 a (by omega))
  have e6 := e5.nw (z := (1, 3))
  show V E l _ _ _ (5, 130) 44 _ [.ref (a + 1 + 1 + 1 + 1), .ref a]
  refine V_putR fw_X0_32 dX0_init_44 e5 rfl (Or.inl ⟨_, rfl⟩) rfl ?_
  refine V_ald0 dX0_init_47 ?_
  refine V_new mn_X0_23 dX0_init_48 (by decide) (by decide) ?_
  refine V_dup dX0_init_51 rfl ?_
  refine V_bipush (v := 40) dX0_init_52 (by decide) ?_
  refine V_ci1P lk_X0_25 cc_X1_init dX0_init_54 (c_X1_init40 (xIs.new (by omega) (by decide)) rfl) (xFit.mk (by decide) (by decide) (by decide) (by decide)) (Nat.le_of_ble_eq_true rfl) (fun o9 q9 hq9 => ?_)
  obtain ⟨rfl, K3, G3, M3, L3, rfl, ⟨-, fK3, fA3⟩, r3, i3⟩ := hq9
  have fG3 := fun k h1 h2 => (fA3 k h1 h2).1
  have fM3 := fun k h1 h2 => (fA3 k h1 h2).2.1
  have fL3 := fun k h1 h2 => (fA3 k h1 h2).2.2
  have e7 := e6.go (Nat.le_succ _) (fK3 a (by omega))
  show V E l _ _ _ (7, 193) 57 _ [.ref (a + 1 + 1 + 1 + 1 + 1 + 1), .ref a]
  refine V_putR fw_X0_35 dX0_init_57 e7 rfl (Or.inl ⟨_, rfl⟩) rfl ?_
  exact V_vret rfl dX0_init_60 (by decide) (by decide) (by
  refine ⟨rfl, _, _, _, _, rfl, ⟨by omega, fun k hk => ?_, fun k h1 h2 => ⟨?_, ?_, ?_⟩⟩, ⟨e7, ?_, ⟨by omega, by omega, ?_, by decide⟩, ?_, r1.go (by omega) (fun k h1 h2 => ⟨?_, ?_⟩), ?_, r2.go (by omega) (fun k h1 h2 => ⟨?_, ?_⟩), ?_, r3.go (by omega) (fun k h1 h2 => ⟨rfl, ?_⟩)⟩, ⟨iLn_go i1 ?_, iLn_go i2 ?_, i3⟩, fun f hf => ?_, ?_, ?_⟩
  all_goals (try (simp (disch := omega) only [xup_kf, xup_s, xup_k, xup_i, xnw_n, xnw_s, fK1, fG1, fM1, fL1, fK2, fG2, fM2, fL2, fK3, fG3, fM3, fL3]; done))
  all_goals (try (simp (disch := omega) only [xup_kf, xup_s, xup_k, xup_i, xnw_n, xnw_s, fK1, fG1, fM1, fL1, fK2, fG2, fM2, fL2, fK3, fG3, fM3, fL3]; rfl)))
theorem c_X3_init (hb : xIs n K s 3 2) (hn : n = s + 1) : Con E l Y_X3_init [.ref s] (true, n, K, G, M, L) (fun r q' => r = none ∧ ∃ K' G' M' L', q' = (true, n + 14, K', G', M', L') ∧ Gw n (n + 14) s K K' G G' M M' L L' ∧ rSt (n + 14) K' G' s ∧ AlE M' L' s rCln) xF := by
  have h3 : 3 ≤ s := hb.1
  subst hn
  have e1 := hb.nw (z := (2, 12))
  refine Con.mk 0 mp_X3_init rfl (ls := [some (.ref s)]) rfl (Nat.le_of_ble_eq_true rfl) ?_
  refine V_ald0 dX3_init_0 ?_
  refine V_obj ml_X3_1 mo_1 mo_2 dX3_init_1 (by decide) (by decide) (Nat.le_of_ble_eq_true rfl) ?_
  refine V_ald0 dX3_init_4 ?_
  refine V_new mn_X3_7 dX3_init_5 (by decide) (by decide) ?_
  refine V_dup dX3_init_8 rfl ?_
  refine V_ci0P lk_X3_9 cc_X2_init dX3_init_9 (c_X2_init (xIs.new (by omega) (by decide)) rfl) (xFit.mk (by decide) (by decide) (by decide) (by decide)) (Nat.le_of_ble_eq_true rfl) (fun o9 q9 hq9 => ?_)
  obtain ⟨rfl, K1, G1, M1, L1, rfl, ⟨-, fK1, fA1⟩, r1, i1⟩ := hq9
  have fG1 := fun k h1 h2 => (fA1 k h1 h2).1
  have fM1 := fun k h1 h2 => (fA1 k h1 h2).2.1
  have fL1 := fun k h1 h2 => (fA1 k h1 h2).2.2
  have e2 := e1.go (n' := s + 1 + 1 + 5) (by omega) (fK1 s (by omega))
  have e3 := e2.nw (z := (0, 6))
  show V E l _ _ _ (6, 49) 12 _ [.ref (s + 1), .ref s]
  refine V_putR fw_X3_10 dX3_init_12 e2 rfl (Or.inl ⟨_, rfl⟩) rfl ?_
  refine V_ald0 dX3_init_15 ?_
  refine V_new mn_X3_16 dX3_init_16 (by decide) (by decide) ?_
  refine V_dup dX3_init_19 rfl ?_
  refine V_ci0P lk_X3_18 cc_X0_init dX3_init_20 (c_X0_init (xIs.new (by omega) (by decide)) rfl) (xFit.mk (by decide) (by decide) (by decide) (by decide)) (Nat.le_of_ble_eq_true rfl) (fun o9 q9 hq9 => ?_)
  obtain ⟨rfl, K2, G2, M2, L2, rfl, ⟨-, fK2, fA2⟩, r2, i2⟩ := hq9
  have fG2 := fun k h1 h2 => (fA2 k h1 h2).1
  have fM2 := fun k h1 h2 => (fA2 k h1 h2).2.1
  have fL2 := fun k h1 h2 => (fA2 k h1 h2).2.2
  have e4 := e3.go (n' := s + 1 + 1 + 5 + 1 + 7) (by omega) (fK2 s (by omega))
  show V E l _ _ _ (14, 248) 23 _ [.ref (s + 1 + 1 + 5), .ref s]
  refine V_putR fw_X3_19 dX3_init_23 e4 rfl (Or.inl ⟨_, rfl⟩) rfl ?_
  exact V_vret rfl dX3_init_26 (by decide) (by decide) (by
  refine ⟨rfl, _, _, _, _, rfl, ⟨by omega, fun k hk => ?_, fun k h1 h2 => ⟨?_, ?_, ?_⟩⟩, ⟨e4, ?_, r1.go (by omega) (fun k h1 h2 => ⟨?_, ?_⟩), ?_, r2.go (by omega) (fun k h1 h2 => ⟨rfl, ?_⟩)⟩, 0, 0, 0, 0, i1.congr (fun k i h1 h2 => ?_) (fun _ _ _ => rfl), i2.al⟩
  all_goals (try (simp (disch := omega) only [xup_kf, xup_s, xup_k, xup_i, xnw_n, xnw_s, fK1, fG1, fM1, fL1, fK2, fG2, fM2, fL2]; done))
  all_goals (try (simp (disch := omega) only [xup_kf, xup_s, xup_k, xup_i, xnw_n, xnw_s, fK1, fG1, fM1, fL1, fK2, fG2, fM2, fL2]; rfl)))
/-- the whole object being made: so many memories stand -/
def P5 (n : Nat) (K : xKnd) (G : xRef) (M : xMem) (L : xLng) (o i : Nat) : Prop :=
  xIs n K o 5 11 ∧ G o 0 = some (o + 1) ∧ rTx n K G (o + 1) ∧ G o 1 = some (o + 3) ∧ rSt n K G (o + 3) ∧ G o 2 = some (o + 18) ∧ rSt n K G (o + 18) ∧ G o 3 = some (o + 33) ∧ rSt n K G (o + 33) ∧
  G o 4 = some (o + 48) ∧ xIs n K (o + 48) 13 14 ∧ (∀ j, j < i → G (o + 48) j = some (o + 79 + 15 * j) ∧ rSt n K G (o + 79 + 15 * j)) ∧ G o 7 = some (o + 49) ∧ rSt n K G (o + 49) ∧ G o 8 = some (o + 64) ∧ rSt n K G (o + 64) ∧
  M (o + 1) 1 = 0 ∧ AlE M L (o + 3) rCln ∧ AlE M L (o + 18) rCln ∧ M o 5 = 0 ∧ M o 6 = 0 ∧ M o 9 = 0 ∧ M o 10 = 0
theorem P5.go {n' i : Nat} {K' : xKnd} {G' : xRef} {M' : xMem} {L' : xLng} (h : P5 n K G M L o i) (hn : n ≤ n') (hk : ∀ k, o ≤ k → k < o + 79 + 15 * i → K' k = K k ∧ (k ≠ o + 48 → G' k = G k) ∧ M' k = M k ∧ L' k = L k) (hg : ∀ j, j < i → G' (o + 48) j = G (o + 48) j) : P5 n' K' G' M' L' o i := by
  obtain ⟨h0, g0, ht, g1, s1, g2, s2, g3, s3, g4, h4, hj, g7, s7, g8, s8, m1, a1, a2, m5, m6, m9, m10⟩ := h
  have kk : ∀ k, o ≤ k → k < o + 79 + 15 * i → k ≠ o + 48 → K' k = K k ∧ G' k = G k := fun k q1 q2 q3 => ⟨(hk k q1 q2).1, (hk k q1 q2).2.1 q3⟩
  unfold P5
  rw [(kk o (by omega) (by omega) (by omega)).2, (hk o (by omega) (by omega)).2.2.1, (hk (o + 1) (by omega) (by omega)).2.2.1]
  refine ⟨h0.go hn (hk _ (by omega) (by omega)).1, g0, ht.go hn (fun k q1 q2 => kk k (by omega) (by omega) (by omega)), g1, s1.go hn (fun k q1 q2 => kk k (by omega) (by omega) (by omega)), g2, s2.go hn (fun k q1 q2 => kk k (by omega) (by omega) (by omega)), g3, s3.go hn (fun k q1 q2 => kk k (by omega) (by omega) (by omega)), g4, h4.go hn (hk _ (by omega) (by omega)).1, fun j q => ⟨(hg j q).trans (hj j q).1, (hj j q).2.go hn (fun k q1 q2 => kk k (by omega) (by omega) (by omega))⟩, g7, s7.go hn (fun k q1 q2 => kk k (by omega) (by omega) (by omega)), g8, s8.go hn (fun k q1 q2 => kk k (by omega) (by omega) (by omega)), m1, a1.congr (fun k i q1 q2 => by rw [(hk k (by omega) (by omega)).2.2.1]) (by rw [(hk _ (by omega) (by omega)).2.2.2]), a2.congr (fun k i q1 q2 => by rw [(hk k (by omega) (by omega)).2.2.1]) (by rw [(hk _ (by omega) (by omega)).2.2.2]), m5, m6, m9, m10⟩
theorem c_X5_init (hb : xIs n K o 5 11) (hn : n = o + 1) : Con E l Y_X5_init [.ref o] (true, n, K, G, M, L) (fun r q' => r = none ∧ ∃ K' G' M' L', q' = (true, n + 288, K', G', M', L') ∧ Gw n (n + 288) o K K' G G' M M' L L' ∧ rX (n + 288) K' G' o ∧ CRel M' L' o sNew) xF := by
  have h3 : 3 ≤ o := hb.1
  subst hn
  have e1 := hb.nw (z := (4, 2))
  obtain ⟨N, hN⟩ : ∃ N, N = 14 := ⟨14, rfl⟩
  have loop : ∀ (r i : Nat) (K1 : xKnd) (G1 : xRef) (M1 : xMem) (L1 : xLng), r + i = N → P5 (o + 79 + 15 * i) K1 G1 M1 L1 o i → (∀ k, k < o → K1 k = K k ∧ G1 k = G k ∧ M1 k = M k ∧ L1 k = L k) → K1 o = K o →
      V E l Y_X5_init (xQm E Y_X5_init (fun r q' => r = none ∧ ∃ K' G' M' L', q' = (true, o + 1 + 288, K', G', M', L') ∧ Gw (o + 1) (o + 1 + 288) o K K' G G' M M' L L' ∧ rX (o + 1 + 288) K' G' o ∧ CRel M' L' o sNew) xF) (true, o + 79 + 15 * i, K1, G1, M1, L1) (78 + 15 * i, 1366 + 250 * i) 101 [some (.ref o), some (.int (nI i))] [] := by
    intro r
    induction r with
    | zero =>
      intro i K1 G1 M1 L1 hi hp hf hf2
      have e : i = 14 := by omega
      subst e
      obtain ⟨h0, g0, ht, g1, s1, g2, s2, g3, s3, g4, h4, hj, g7, s7, g8, s8, m1, a1, a2, m5, m6, m9, m10⟩ := hp
      refine V_ild1 dX5_init_101 ?_
      refine V_ald0 dX5_init_102 ?_
      refine V_getR fd_X5_29 dX5_init_103 (by assumption) (by assumption) rfl ?_
      refine V_alen dX5_init_106 (by assumption) (by decide) (by decide) ?_
      refine V_icmp_ge (tgt := 129) dX5_init_107 (by decide) (fun h107 => ?_) (fun h107 => ?_)
      · exact V_vret rfl dX5_init_129 (by decide) (by decide) (by
  refine ⟨rfl, K1, G1, M1, L1, rfl, ⟨by omega, fun k q1 => ?_, fun k q1 q2 => (hf k (by omega)).2⟩, ⟨h0, g0, ht, g1, s1, g2, s2, g3, s3, g4, h4, hj, g7, s7, g8, s8⟩, ⟨m1, Nat.zero_le _⟩, fun i hi => absurd hi (Nat.not_lt_zero i), a1, a2, ⟨0, by decide, m5, m6, by decide, fun i hi => absurd hi (Nat.not_lt_zero i)⟩, m9, m10, fun q => absurd q Bool.false_ne_true, fun q => absurd q Bool.false_ne_true⟩
  by_cases z : k = o
  · rw [z]; exact hf2
  · exact (hf k (by omega)).1)
      · exact absurd h107 (by decide)
    | succ r ih =>
      intro i K1 G1 M1 L1 hi hp hf hf2
      have hp0 := hp
      obtain ⟨h0, g0, ht, g1, s1, g2, s2, g3, s3, g4, h4, hj, g7, s7, g8, s8, m1, a1, a2, m5, m6, m9, m10⟩ := hp
      have h4' := h4.nw (z := (3, 2))
      refine V_ild1 dX5_init_101 ?_
      refine V_ald0 dX5_init_102 ?_
      refine V_getR fd_X5_29 dX5_init_103 (by assumption) (by assumption) rfl ?_
      refine V_alen dX5_init_106 (by assumption) (by decide) (by decide) ?_
      refine V_icmp_ge (tgt := 129) dX5_init_107 (by decide) (fun h107 => ?_) (fun h107 => ?_)
      · exact absurd (nI_lt (b := 14) (by omega) (by decide)) h107
      · refine V_ald0 dX5_init_110 ?_
        refine V_getR fd_X5_29 dX5_init_111 (by assumption) (by assumption) rfl ?_
        refine V_ild1 dX5_init_114 ?_
        refine V_new mn_X5_16 dX5_init_115 (by show _ ≤ (_ : Nat); simp only; omega) (by show _ ≤ (_ : Nat); simp only; omega) ?_
        refine V_dup dX5_init_118 rfl ?_
        refine V_ci0P lk_X5_18 cc_X3_init dX5_init_119 (c_X3_init (xIs.new (by omega) (by decide)) rfl) (xFit.mk (by decide) (by decide) (by show _ + 14 ≤ 288; simp only; omega) (by show _ + 248 ≤ 4866; simp only; omega)) (Nat.le_of_ble_eq_true rfl) (fun o9 q9 hq9 => ?_)
        obtain ⟨rfl, K2, G2, M2, L2, rfl, ⟨-, fK2, fA2⟩, r2, i2⟩ := hq9
        have fG2 := fun k h1 h2 => (fA2 k h1 h2).1
        have fM2 := fun k h1 h2 => (fA2 k h1 h2).2.1
        have fL2 := fun k h1 h2 => (fA2 k h1 h2).2.2
        have h4n := h4'.go (n' := o + 79 + 15 * i + 1 + 14) (by omega) (fK2 (o + 48) (by omega))
        show V E l _ _ _ (78 + 15 * i + 1 + 14, 1366 + 250 * i + 2 + 248) 122 _ [.ref (o + 79 + 15 * i), .int (nI i), .ref (o + 48)]
        have sI := r2.1
        refine V_aast (j := i)  dX5_init_122 h4n (by assumption) rfl (by omega) ?_
        refine V_inc1 dX5_init_123 rfl (nI_1 i) ?_
        refine V_goto (tgt := 101) dX5_init_126 (by decide) ?_
        refine V_widen (k := 78 + 15 * (i + 1)) (n := 1366 + 250 * (i + 1)) (by simp only; omega) (by simp only; omega) ?_
        have eN : o + 79 + 15 * i + 1 + 14 = o + 79 + 15 * (i + 1) := by omega
        rw [eN] at r2 ⊢
        refine ih (i + 1) K2 _ M2 L2 (by omega) ?_ (fun k q => ⟨?_, ?_, ?_, ?_⟩) ?_
        · have pg : P5 (o + 79 + 15 * (i + 1)) K2 (xup G2 (o + 48) i (some (o + 79 + 15 * i))) M2 L2 o i := by
            refine hp0.go (by omega) (fun k q1 q2 => ⟨?_, fun q3 => ?_, ?_, ?_⟩) (fun j q1 => ?_)
            · rw [fK2 k (by omega), xnw_n (by omega)]
            · rw [xup_kf q3, fG2 k (by omega) (by omega), xnw_n (by omega)]
            · rw [fM2 k (by omega) (by omega), xnw_n (by omega)]
            · rw [fL2 k (by omega) (by omega), xnw_n (by omega)]
            · rw [xup_i (by omega), fG2 (o + 48) (by omega) (by omega), xnw_n (by omega)]
          obtain ⟨h0, g0, ht, g1, s1, g2, s2, g3, s3, g4, h4, hj, rest⟩ := pg
          refine ⟨h0, g0, ht, g1, s1, g2, s2, g3, s3, g4, h4, fun j q => ?_, rest⟩
          by_cases z : j = i
          · subst z
            exact ⟨xup_s, r2.go (Nat.le_refl _) (fun k q1 q2 => ⟨rfl, xup_kf (by omega)⟩)⟩
          · exact hj j (by omega)
        · rw [fK2 k (by omega), xnw_n (by omega)]; exact (hf k q).1
        · rw [xup_kf (by omega), fG2 k (by omega) (by omega), xnw_n (by omega)]; exact (hf k q).2.1
        · rw [fM2 k (by omega) (by omega), xnw_n (by omega)]; exact (hf k q).2.2.1
        · rw [fL2 k (by omega) (by omega), xnw_n (by omega)]; exact (hf k q).2.2.2
        · rw [fK2 o (by omega), xnw_n (by omega)]; exact hf2
  refine Con.mk 1 mp_X5_init rfl (ls := [some (.ref o), none]) rfl (Nat.le_of_ble_eq_true rfl) ?_
  refine V_ald0 dX5_init_0 ?_
  refine V_obj ml_X5_1 mo_1 mo_2 dX5_init_1 (by decide) (by decide) (Nat.le_of_ble_eq_true rfl) ?_
  refine V_ald0 dX5_init_4 ?_
  refine V_new mn_X5_7 dX5_init_5 (by decide) (by decide) ?_
  refine V_dup dX5_init_8 rfl ?_
  refine V_ci0P lk_X5_9 cc_X4_init dX5_init_9 (c_X4_init (xIs.new (by omega) (by decide)) rfl) (xFit.mk (by decide) (by decide) (by decide) (by decide)) (Nat.le_of_ble_eq_true rfl) (fun o9 q9 hq9 => ?_)
  obtain ⟨rfl, K1, G1, M1, L1, rfl, ⟨-, fK1, fA1⟩, r1, i1⟩ := hq9
  have fG1 := fun k h1 h2 => (fA1 k h1 h2).1
  have fM1 := fun k h1 h2 => (fA1 k h1 h2).2.1
  have fL1 := fun k h1 h2 => (fA1 k h1 h2).2.2
  have e2 := e1.go (n' := o + 1 + 1 + 1) (by omega) (fK1 o (by omega))
  have e2n := e2.nw (z := (3, 2))
  show V E l _ _ _ (2, 102) 12 _ [.ref (o + 1), .ref o]
  refine V_putR fw_X5_10 dX5_init_12 e2 rfl (Or.inl ⟨_, rfl⟩) rfl ?_
  refine V_ald0 dX5_init_15 ?_
  refine V_new mn_X5_16 dX5_init_16 (by decide) (by decide) ?_
  refine V_dup dX5_init_19 rfl ?_
  refine V_ci0P lk_X5_18 cc_X3_init dX5_init_20 (c_X3_init (xIs.new (by omega) (by decide)) rfl) (xFit.mk (by decide) (by decide) (by decide) (by decide)) (Nat.le_of_ble_eq_true rfl) (fun o9 q9 hq9 => ?_)
  obtain ⟨rfl, K2, G2, M2, L2, rfl, ⟨-, fK2, fA2⟩, r2, i2⟩ := hq9
  have fG2 := fun k h1 h2 => (fA2 k h1 h2).1
  have fM2 := fun k h1 h2 => (fA2 k h1 h2).2.1
  have fL2 := fun k h1 h2 => (fA2 k h1 h2).2.2
  have e3 := e2n.go (n' := o + 1 + 1 + 1 + 1 + 14) (by omega) (fK2 o (by omega))
  have e3n := e3.nw (z := (3, 2))
  show V E l _ _ _ (17, 352) 23 _ [.ref (o + 1 + 1 + 1), .ref o]
  refine V_putR fw_X5_19 dX5_init_23 e3 rfl (Or.inl ⟨_, rfl⟩) rfl ?_
  refine V_ald0 dX5_init_26 ?_
  refine V_new mn_X5_16 dX5_init_27 (by decide) (by decide) ?_
  refine V_dup dX5_init_30 rfl ?_
  refine V_ci0P lk_X5_18 cc_X3_init dX5_init_31 (c_X3_init (xIs.new (by omega) (by decide)) rfl) (xFit.mk (by decide) (by decide) (by decide) (by decide)) (Nat.le_of_ble_eq_true rfl) (fun o9 q9 hq9 => ?_)
  obtain ⟨rfl, K3, G3, M3, L3, rfl, ⟨-, fK3, fA3⟩, r3, i3⟩ := hq9
  have fG3 := fun k h1 h2 => (fA3 k h1 h2).1
  have fM3 := fun k h1 h2 => (fA3 k h1 h2).2.1
  have fL3 := fun k h1 h2 => (fA3 k h1 h2).2.2
  have e4 := e3n.go (n' := o + 1 + 1 + 1 + 1 + 14 + 1 + 14) (by omega) (fK3 o (by omega))
  have e4n := e4.nw (z := (3, 2))
  show V E l _ _ _ (32, 602) 34 _ [.ref (o + 1 + 1 + 1 + 1 + 14), .ref o]
  refine V_putR fw_X5_23 dX5_init_34 e4 rfl (Or.inl ⟨_, rfl⟩) rfl ?_
  refine V_ald0 dX5_init_37 ?_
  refine V_new mn_X5_16 dX5_init_38 (by decide) (by decide) ?_
  refine V_dup dX5_init_41 rfl ?_
  refine V_ci0P lk_X5_18 cc_X3_init dX5_init_42 (c_X3_init (xIs.new (by omega) (by decide)) rfl) (xFit.mk (by decide) (by decide) (by decide) (by decide)) (Nat.le_of_ble_eq_true rfl) (fun o9 q9 hq9 => ?_)
  obtain ⟨rfl, K4, G4, M4, L4, rfl, ⟨-, fK4, fA4⟩, r4, i4⟩ := hq9
  have fG4 := fun k h1 h2 => (fA4 k h1 h2).1
  have fM4 := fun k h1 h2 => (fA4 k h1 h2).2.1
  have fL4 := fun k h1 h2 => (fA4 k h1 h2).2.2
  have e5 := e4n.go (n' := o + 1 + 1 + 1 + 1 + 14 + 1 + 14 + 1 + 14) (by omega) (fK4 o (by omega))
  have e5n := e5.nw (z := (13, 14))
  show V E l _ _ _ (47, 852) 45 _ [.ref (o + 1 + 1 + 1 + 1 + 14 + 1 + 14), .ref o]
  refine V_putR fw_X5_26 dX5_init_45 e5 rfl (Or.inl ⟨_, rfl⟩) rfl ?_
  refine V_ald0 dX5_init_48 ?_
  refine V_bipush (v := 14) dX5_init_49 (by decide) ?_
  refine V_anew (N := 14) mq_X5_16 dX5_init_51 (by decide) (by decide) (by decide) (by decide) ?_
  refine V_putR fw_X5_29 dX5_init_54 e5n rfl (Or.inr ⟨_, rfl⟩) rfl ?_
  have e6n := e5n.nw (z := (3, 2))
  refine V_ald0 dX5_init_57 ?_
  refine V_iconst (v := 0) dX5_init_58 (by decide) ?_
  refine V_putI fw_X5_33 dX5_init_59 e5n rfl ?_
  refine V_ald0 dX5_init_62 ?_
  refine V_iconst (v := 0) dX5_init_63 (by decide) ?_
  refine V_putI fw_X5_37 dX5_init_64 e5n rfl ?_
  refine V_ald0 dX5_init_67 ?_
  refine V_new mn_X5_16 dX5_init_68 (by decide) (by decide) ?_
  refine V_dup dX5_init_71 rfl ?_
  refine V_ci0P lk_X5_18 cc_X3_init dX5_init_72 (c_X3_init (xIs.new (by omega) (by decide)) rfl) (xFit.mk (by decide) (by decide) (by decide) (by decide)) (Nat.le_of_ble_eq_true rfl) (fun o9 q9 hq9 => ?_)
  obtain ⟨rfl, K6, G6, M6, L6, rfl, ⟨-, fK6, fA6⟩, r6, i6⟩ := hq9
  have fG6 := fun k h1 h2 => (fA6 k h1 h2).1
  have fM6 := fun k h1 h2 => (fA6 k h1 h2).2.1
  have fL6 := fun k h1 h2 => (fA6 k h1 h2).2.2
  have e7 := e6n.go (n' := o + 1 + 1 + 1 + 1 + 14 + 1 + 14 + 1 + 14 + 1 + 1 + 14) (by omega) (fK6 o (by omega))
  have e7n := e7.nw (z := (3, 2))
  show V E l _ _ _ (63, 1116) 75 _ [.ref (o + 1 + 1 + 1 + 1 + 14 + 1 + 14 + 1 + 14 + 1), .ref o]
  refine V_putR fw_X5_40 dX5_init_75 e7 rfl (Or.inl ⟨_, rfl⟩) rfl ?_
  refine V_ald0 dX5_init_78 ?_
  refine V_new mn_X5_16 dX5_init_79 (by decide) (by decide) ?_
  refine V_dup dX5_init_82 rfl ?_
  refine V_ci0P lk_X5_18 cc_X3_init dX5_init_83 (c_X3_init (xIs.new (by omega) (by decide)) rfl) (xFit.mk (by decide) (by decide) (by decide) (by decide)) (Nat.le_of_ble_eq_true rfl) (fun o9 q9 hq9 => ?_)
  obtain ⟨rfl, K7, G7, M7, L7, rfl, ⟨-, fK7, fA7⟩, r7, i7⟩ := hq9
  have fG7 := fun k h1 h2 => (fA7 k h1 h2).1
  have fM7 := fun k h1 h2 => (fA7 k h1 h2).2.1
  have fL7 := fun k h1 h2 => (fA7 k h1 h2).2.2
  have e8 := e7n.go (n' := o + 1 + 1 + 1 + 1 + 14 + 1 + 14 + 1 + 14 + 1 + 1 + 14 + 1 + 14) (by omega) (fK7 o (by omega))
  show V E l _ _ _ (78, 1366) 86 _ [.ref (o + 1 + 1 + 1 + 1 + 14 + 1 + 14 + 1 + 14 + 1 + 1 + 14), .ref o]
  refine V_putR fw_X5_43 dX5_init_86 e8 rfl (Or.inl ⟨_, rfl⟩) rfl ?_
  refine V_ald0 dX5_init_89 ?_
  refine V_iconst (v := 0) dX5_init_90 (by decide) ?_
  refine V_putZ fw_X5_46 dX5_init_91 e8 (Or.inl rfl) rfl ?_
  refine V_ald0 dX5_init_94 ?_
  refine V_iconst (v := 0) dX5_init_95 (by decide) ?_
  refine V_putZ fw_X5_50 dX5_init_96 e8 (Or.inl rfl) rfl ?_
  refine V_iconst (v := 0) dX5_init_99 (by decide) ?_
  refine V_ist1 dX5_init_100 rfl (by decide) ?_
  refine loop N 0 _ _ _ _ (by omega) ?_ (fun k q => ⟨?_, ?_, ?_, ?_⟩) ?_
  · refine ⟨e8, ?_, r1.go (by omega) (fun k h1 h2 => ⟨?_, ?_⟩), ?_, r2.go (by omega) (fun k h1 h2 => ⟨?_, ?_⟩), ?_, r3.go (by omega) (fun k h1 h2 => ⟨?_, ?_⟩), ?_, r4.go (by omega) (fun k h1 h2 => ⟨?_, ?_⟩), ?_, ⟨by omega, by omega, ?_, by decide⟩, fun j q => absurd q (Nat.not_lt_zero j), ?_, r6.go (by omega) (fun k h1 h2 => ⟨?_, ?_⟩), ?_, r7.go (by omega) (fun k h1 h2 => ⟨?_, ?_⟩), ?_, i2.congr (fun k i h1 h2 => ?_) ?_, i3.congr (fun k i h1 h2 => ?_) ?_, ?_, ?_, ?_, ?_⟩
    all_goals (try (simp (disch := omega) only [xup_kf, xup_s, xup_k, xup_i, xnw_n, xnw_s, fK1, fG1, fM1, fL1, fK2, fG2, fM2, fL2, fK3, fG3, fM3, fL3, fK4, fG4, fM4, fL4, fK6, fG6, fM6, fL6, fK7, fG7, fM7, fL7]; done))
    all_goals (try (simp (disch := omega) only [xup_kf, xup_s, xup_k, xup_i, xnw_n, xnw_s, fK1, fG1, fM1, fL1, fK2, fG2, fM2, fL2, fK3, fG3, fM3, fL3, fK4, fG4, fM4, fL4, fK6, fG6, fM6, fL6, fK7, fG7, fM7, fL7]; rfl))
    all_goals (try (simp (disch := omega) only [xup_kf, xup_s, xup_k, xup_i, xnw_n, xnw_s, fK1, fG1, fM1, fL1, fK2, fG2, fM2, fL2, fK3, fG3, fM3, fL3, fK4, fG4, fM4, fL4, fK6, fG6, fM6, fL6, fK7, fG7, fM7, fL7]; exact i1))
  all_goals (try (simp (disch := omega) only [xup_kf, xup_s, xup_k, xup_i, xnw_n, xnw_s, fK1, fG1, fM1, fL1, fK2, fG2, fM2, fL2, fK3, fG3, fM3, fL3, fK4, fG4, fM4, fL4, fK6, fG6, fM6, fL6, fK7, fG7, fM7, fL7]; done))
  all_goals (try (simp (disch := omega) only [xup_kf, xup_s, xup_k, xup_i, xnw_n, xnw_s, fK1, fG1, fM1, fL1, fK2, fG2, fM2, fL2, fK3, fG3, fM3, fL3, fK4, fG4, fM4, fL4, fK6, fG6, fM6, fL6, fK7, fG7, fM7, fL7]; rfl))
end C72

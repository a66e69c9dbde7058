/-! ===== constructors: what is made ===== -/
def Gw (n n' b : Nat) (K K' : xKnd) (G G' : xRef) (M M' : xMem) (L L' : xLng) : Prop := n ≤ n' ∧ (∀ k, k < n → K' k = K k) ∧ ∀ k, k < n → k ≠ b → G' k = G k ∧ M' k = M k ∧ L' k = L k
theorem xup_kf {α : Type} {M : Nat → Nat → α} {a i k : Nat} {v : α} (h : k ≠ a) : xup M a i v k = M k := by funext z; exact xup_k h
section P71
variable {n n' b c a s p N w len lf v lr : Nat} {K K' : xKnd} {G G' : xRef} {M M' : xMem} {L L' : xLng}
theorem xIs.go (h : xIs n K a c N) (hn : n ≤ n') (hk : K' a = K a) : xIs n' K' a c N := ⟨h.1, Nat.lt_of_lt_of_le h.2.1 hn, hk.trans h.2.2.1, h.2.2.2⟩
theorem xIs.nw {z : Nat × Nat} (h : xIs n K a c N) : xIs (n + 1) (xnw K n z) a c N := h.go (Nat.le_succ n) (xnw_n (Nat.ne_of_lt h.2.1))
theorem xIs.new (h : 3 ≤ n) (hN : N < 2 ^ 31) : xIs (n + 1) (xnw K n (c, N)) n c N := ⟨h, Nat.lt_succ_self n, xnw_s, hN⟩
theorem rLn.go (h : rLn n K G b N) (hn : n ≤ n') (hk : ∀ k, b ≤ k → k ≤ b + 1 → K' k = K k ∧ G' k = G k) : rLn n' K' G' b N := by
  obtain ⟨h1, h2, h3, h4⟩ := h
  exact ⟨h1.go hn (hk _ (by omega) (by omega)).1, by rw [(hk b (by omega) (by omega)).2]; exact h2, h3.go hn (hk _ (by omega) (by omega)).1, h4⟩
theorem iLn_go (h : iLn M b N w len) (hk : M' b = M b) : iLn M' b N w len := by unfold iLn; rw [hk]; exact h
theorem rPl.go (h : rPl n K G p) (hn : n ≤ n') (hk : ∀ k, p ≤ k → k ≤ p + 5 → K' k = K k ∧ G' k = G k) : rPl n' K' G' p := by
  obtain ⟨h0, g1, h1, g2, h2, g3, h3, g4, h4, g5, h5⟩ := h
  unfold rPl
  rw [(hk p (by omega) (by omega)).2]
  exact ⟨h0.go hn (hk _ (by omega) (by omega)).1, g1, h1.go hn (hk _ (by omega) (by omega)).1, g2, h2.go hn (hk _ (by omega) (by omega)).1, g3, h3.go hn (hk _ (by omega) (by omega)).1, g4, h4.go hn (hk _ (by omega) (by omega)).1, g5, h5.go hn (hk _ (by omega) (by omega)).1⟩
theorem rAc.go (h : rAc n K G a) (hn : n ≤ n') (hk : ∀ k, a ≤ k → k ≤ a + 7 → K' k = K k ∧ G' k = G k) : rAc n' K' G' a := by
  obtain ⟨h0, g1, h1, g2, h2, g3, h3, g4, h4⟩ := h
  unfold rAc
  rw [(hk a (by omega) (by omega)).2]
  exact ⟨h0.go hn (hk _ (by omega) (by omega)).1, g1, h1.go hn (hk _ (by omega) (by omega)).1, g2, h2.go hn (fun k q1 q2 => hk _ (by omega) (by omega)), g3, h3.go hn (fun k q1 q2 => hk _ (by omega) (by omega)), g4, h4.go hn (fun k q1 q2 => hk _ (by omega) (by omega))⟩
theorem rSt.go (h : rSt n K G s) (hn : n ≤ n') (hk : ∀ k, s ≤ k → k ≤ s + 14 → K' k = K k ∧ G' k = G k) : rSt n' K' G' s := by
  obtain ⟨h0, g1, h1, g2, h2⟩ := h
  unfold rSt
  rw [(hk s (by omega) (by omega)).2]
  exact ⟨h0.go hn (hk _ (by omega) (by omega)).1, g1, h1.go hn (fun k q1 q2 => hk _ (by omega) (by omega)), g2, h2.go hn (fun k q1 q2 => hk _ (by omega) (by omega))⟩
theorem rTx.go (h : rTx n K G s) (hn : n ≤ n') (hk : ∀ k, s ≤ k → k ≤ s + 1 → K' k = K k ∧ G' k = G k) : rTx n' K' G' s := by
  obtain ⟨h0, g1, h1⟩ := h
  unfold rTx
  rw [(hk s (by omega) (by omega)).2]
  exact ⟨h0.go hn (hk _ (by omega) (by omega)).1, g1, h1.go hn (hk _ (by omega) (by omega)).1⟩
/-- accounts in which nothing stands -/
def Ac0 (M : xMem) (L : xLng) (a : Nat) : Prop := iAc M a 0 0 0 0 ∧ (∀ f, f < 4 → M (a + 1) f = 0) ∧ M a 2 = 0 ∧ L a 1 = 0
theorem Ac0.al (h : Ac0 M L a) : AlA M L a rCln 0 0 0 0 := by
  obtain ⟨h1, h2, h3, h4⟩ := h
  refine ⟨h1, fun f hf => ?_, h3.trans rfl, h4.trans rfl, rfl, rfl, fun j hj => absurd hj (Nat.not_lt_zero j), fun j hj => absurd hj (Nat.not_lt_zero j)⟩
  have : f = 0 ∨ f = 1 ∨ f = 2 ∨ f = 3 := by omega
  rcases this with rfl | rfl | rfl | rfl <;> exact (h2 _ hf).trans rfl
end P71
section C71
variable {E : xEnv} {l : Launch} {n b p a s t : Nat} {K : xKnd} {G : xRef} {M : xMem} {L : xLng}
theorem c_X1_init60 (hb : xIs n K b 1 3) (hn : n = b + 1) : Con E l Y_X1_init [.ref b, .int 60] (true, n, K, G, M, L) (fun r q' => r = none ∧ ∃ K' G' M' L', q' = (true, n + 1, K', G', M', L') ∧ Gw n (n + 1) b K K' G G' M M' L L' ∧ rLn (n + 1) K' G' b 60 ∧ iLn M' b 60 0 0) xF := by
  have h3 : 3 ≤ b := hb.1
  refine Con.mk 0 mp_X1_init rfl (ls := [some (.ref b), some (.int 60)]) rfl (Nat.le_of_ble_eq_true rfl) ?_
  refine V_ald0 dX1_init_0 ?_
  refine V_obj ml_X1_3 mo_1 mo_2 dX1_init_1 (by decide) (by decide) (Nat.le_of_ble_eq_true rfl) ?_
  refine V_ald0 dX1_init_4 ?_
  refine V_iconst (v := 0) dX1_init_5 (by decide) ?_
  refine V_putI fw_X1_9 dX1_init_6 (by assumption) rfl ?_
  refine V_ald0 dX1_init_9 ?_
  refine V_iconst (v := 0) dX1_init_10 (by decide) ?_
  refine V_putI fw_X1_15 dX1_init_11 (by assumption) rfl ?_
  refine V_ald0 dX1_init_14 ?_
  refine V_ild1 dX1_init_15 ?_
  refine V_iconst (v := 1) dX1_init_16 (by decide) ?_
  refine V_max ml_X1_18 mst_max mo_3 mcd_max dX1_init_17 (by decide) (by decide) (by decide) (by decide) (Nat.le_of_ble_eq_true rfl) ?_
  rw [if_neg (by decide)]
  refine V_newarr (N := 60) (Or.inl ⟨rfl, rfl⟩) ma_int dX1_init_20 rfl (by decide) (by decide) (by decide) ?_
  refine V_putR fw_X1_24 dX1_init_22 (xIs.nw hb) rfl (Or.inr ⟨_, rfl⟩) rfl ?_
  exact V_vret rfl dX1_init_25 (by decide) (by decide) (by
  subst hn
  refine ⟨rfl, _, _, _, _, rfl, ⟨Nat.le_succ _, fun k hk => xnw_n (by omega), fun k h1 h2 => ⟨?_, ?_, ?_⟩⟩, ⟨xIs.nw hb, ?_, xIs.new (by omega) (by decide), by decide⟩, ?_, by decide, ?_, by decide⟩
  all_goals simp (disch := omega) only [xup_kf, xup_s, xup_k, xup_i, xnw_n, xnw_s]
  all_goals rfl)
theorem c_X1_init40 (hb : xIs n K b 1 3) (hn : n = b + 1) : Con E l Y_X1_init [.ref b, .int 40] (true, n, K, G, M, L) (fun r q' => r = none ∧ ∃ K' G' M' L', q' = (true, n + 1, K', G', M', L') ∧ Gw n (n + 1) b K K' G G' M M' L L' ∧ rLn (n + 1) K' G' b 40 ∧ iLn M' b 40 0 0) xF := by
  have h3 : 3 ≤ b := hb.1
  refine Con.mk 0 mp_X1_init rfl (ls := [some (.ref b), some (.int 40)]) rfl (Nat.le_of_ble_eq_true rfl) ?_
  refine V_ald0 dX1_init_0 ?_
  refine V_obj ml_X1_3 mo_1 mo_2 dX1_init_1 (by decide) (by decide) (Nat.le_of_ble_eq_true rfl) ?_
  refine V_ald0 dX1_init_4 ?_
  refine V_iconst (v := 0) dX1_init_5 (by decide) ?_
  refine V_putI fw_X1_9 dX1_init_6 (by assumption) rfl ?_
  refine V_ald0 dX1_init_9 ?_
  refine V_iconst (v := 0) dX1_init_10 (by decide) ?_
  refine V_putI fw_X1_15 dX1_init_11 (by assumption) rfl ?_
  refine V_ald0 dX1_init_14 ?_
  refine V_ild1 dX1_init_15 ?_
  refine V_iconst (v := 1) dX1_init_16 (by decide) ?_
  refine V_max ml_X1_18 mst_max mo_3 mcd_max dX1_init_17 (by decide) (by decide) (by decide) (by decide) (Nat.le_of_ble_eq_true rfl) ?_
  rw [if_neg (by decide)]
  refine V_newarr (N := 40) (Or.inl ⟨rfl, rfl⟩) ma_int dX1_init_20 rfl (by decide) (by decide) (by decide) ?_
  refine V_putR fw_X1_24 dX1_init_22 (xIs.nw hb) rfl (Or.inr ⟨_, rfl⟩) rfl ?_
  exact V_vret rfl dX1_init_25 (by decide) (by decide) (by
  subst hn
  refine ⟨rfl, _, _, _, _, rfl, ⟨Nat.le_succ _, fun k hk => xnw_n (by omega), fun k h1 h2 => ⟨?_, ?_, ?_⟩⟩, ⟨xIs.nw hb, ?_, xIs.new (by omega) (by decide), by decide⟩, ?_, by decide, ?_, by decide⟩
  all_goals simp (disch := omega) only [xup_kf, xup_s, xup_k, xup_i, xnw_n, xnw_s]
  all_goals rfl)
theorem c_X4_init (hb : xIs n K t 4 2) (hn : n = t + 1) : Con E l Y_X4_init [.ref t] (true, n, K, G, M, L) (fun r q' => r = none ∧ ∃ K' G' M' L', q' = (true, n + 1, K', G', M', L') ∧ Gw n (n + 1) t K K' G G' M M' L L' ∧ rTx (n + 1) K' G' t ∧ M' t 1 = 0) xF := by
  have h3 : 3 ≤ t := hb.1
  refine Con.mk 0 mp_X4_init rfl (ls := [some (.ref t)]) rfl (Nat.le_of_ble_eq_true rfl) ?_
  refine V_ald0 dX4_init_0 ?_
  refine V_obj ml_X4_3 mo_1 mo_2 dX4_init_1 (by decide) (by decide) (Nat.le_of_ble_eq_true rfl) ?_
  refine V_ald0 dX4_init_4 ?_
  refine V_bipush (v := 100) dX4_init_5 (by decide) ?_
  refine V_newarr (N := 100) (Or.inl ⟨rfl, rfl⟩) ma_int dX4_init_7 (by decide) (by decide) (by decide) (by decide) ?_
  refine V_putR fw_X4_9 dX4_init_9 (xIs.nw hb) rfl (Or.inr ⟨_, rfl⟩) rfl ?_
  refine V_ald0 dX4_init_12 ?_
  refine V_iconst (v := 0) dX4_init_13 (by decide) ?_
  refine V_putI fw_X4_15 dX4_init_14 (xIs.nw hb) rfl ?_
  exact V_vret rfl dX4_init_17 (by decide) (by decide) (by
  subst hn
  refine ⟨rfl, _, _, _, _, rfl, ⟨Nat.le_succ _, fun k hk => xnw_n (by omega), fun k h1 h2 => ⟨?_, ?_, ?_⟩⟩, ⟨xIs.nw hb, ?_, xIs.new (by omega) (by decide)⟩, ?_⟩
  all_goals simp (disch := omega) only [xup_kf, xup_s, xup_k, xup_i, xnw_n, xnw_s])
theorem c_X2_init (hb : xIs n K p 2 12) (hn : n = p + 1) : Con E l Y_X2_init [.ref p] (true, n, K, G, M, L) (fun r q' => r = none ∧ ∃ K' G' M' L', q' = (true, n + 5, K', G', M', L') ∧ Gw n (n + 5) p K K' G G' M M' L L' ∧ rPl (n + 5) K' G' p ∧ AlP M' p rCln) xF := by
  have h3 : 3 ≤ p := hb.1
  refine Con.mk 0 mp_X2_init rfl (ls := [some (.ref p)]) rfl (Nat.le_of_ble_eq_true rfl) ?_
  have a1 : ∀ {K : xKnd}, xIs (n + 1) (xnw K n (10, 5)) n 10 5 := xIs.new (by omega) (by decide)
  have a2 : ∀ {K : xKnd}, xIs (n + 1 + 1) (xnw K (n + 1) (10, 8)) (n + 1) 10 8 := xIs.new (by omega) (by decide)
  have b1 := hb.nw (z := (10, 5))
  have b2 := b1.nw (z := (10, 8))
  have b3 := b2.nw (z := (10, 8))
  have b4 := b3.nw (z := (10, 8))
  have b5 := b4.nw (z := (10, 8))
  refine V_ald0 dX2_init_0 ?_
  refine V_obj ml_X2_3 mo_1 mo_2 dX2_init_1 (by decide) (by decide) (Nat.le_of_ble_eq_true rfl) ?_
  refine V_ald0 dX2_init_4 ?_
  refine V_iconst (v := 0) dX2_init_5 (by decide) ?_
  refine V_putI fw_X2_9 dX2_init_6 (by assumption) rfl ?_
  refine V_ald0 dX2_init_9 ?_
  refine V_iconst (v := 5) dX2_init_10 (by decide) ?_
  refine V_newarr (N := 5) (Or.inl ⟨rfl, rfl⟩) ma_int dX2_init_11 (by decide) (by decide) (by decide) (by decide) ?_
  refine V_dup dX2_init_13 rfl ?_
  refine V_iconst (v := 0) dX2_init_14 (by decide) ?_
  refine V_iconst (v := 0) dX2_init_15 (by decide) ?_
  refine V_iast (j := 0) dX2_init_16 a1 (by decide) (by decide) ?_
  refine V_dup dX2_init_17 rfl ?_
  refine V_iconst (v := 1) dX2_init_18 (by decide) ?_
  refine V_iconst (v := 3) dX2_init_19 (by decide) ?_
  refine V_iast (j := 1) dX2_init_20 a1 (by decide) (by decide) ?_
  refine V_dup dX2_init_21 rfl ?_
  refine V_iconst (v := 2) dX2_init_22 (by decide) ?_
  refine V_iconst (v := 4) dX2_init_23 (by decide) ?_
  refine V_iast (j := 2) dX2_init_24 a1 (by decide) (by decide) ?_
  refine V_dup dX2_init_25 rfl ?_
  refine V_iconst (v := 3) dX2_init_26 (by decide) ?_
  refine V_bipush (v := 20) dX2_init_27 (by decide) ?_
  refine V_iast (j := 3) dX2_init_29 a1 (by decide) (by decide) ?_
  refine V_dup dX2_init_30 rfl ?_
  refine V_iconst (v := 4) dX2_init_31 (by decide) ?_
  refine V_sipush (v := 3000) dX2_init_32 (by decide) ?_
  refine V_iast (j := 4) dX2_init_35 a1 (by decide) (by decide) ?_
  refine V_putR fw_X2_15 dX2_init_36 (by assumption) rfl (Or.inr ⟨_, rfl⟩) rfl ?_
  refine V_ald0 dX2_init_39 ?_
  refine V_bipush (v := 8) dX2_init_40 (by decide) ?_
  refine V_newarr (N := 8) (Or.inl ⟨rfl, rfl⟩) ma_int dX2_init_42 (by decide) (by decide) (by decide) (by decide) ?_
  refine V_dup dX2_init_44 rfl ?_
  refine V_iconst (v := 0) dX2_init_45 (by decide) ?_
  refine V_iconst (v := 0) dX2_init_46 (by decide) ?_
  refine V_iast (j := 0) dX2_init_47 a2 (by decide) (by decide) ?_
  refine V_dup dX2_init_48 rfl ?_
  refine V_iconst (v := 1) dX2_init_49 (by decide) ?_
  refine V_bipush (v := 100) dX2_init_50 (by decide) ?_
  refine V_iast (j := 1) dX2_init_52 a2 (by decide) (by decide) ?_
  refine V_dup dX2_init_53 rfl ?_
  refine V_iconst (v := 2) dX2_init_54 (by decide) ?_
  refine V_sipush (v := 225) dX2_init_55 (by decide) ?_
  refine V_iast (j := 2) dX2_init_58 a2 (by decide) (by decide) ?_
  refine V_dup dX2_init_59 rfl ?_
  refine V_iconst (v := 3) dX2_init_60 (by decide) ?_
  refine V_sipush (v := 400) dX2_init_61 (by decide) ?_
  refine V_iast (j := 3) dX2_init_64 a2 (by decide) (by decide) ?_
  refine V_dup dX2_init_65 rfl ?_
  refine V_iconst (v := 4) dX2_init_66 (by decide) ?_
  refine V_sipush (v := 900) dX2_init_67 (by decide) ?_
  refine V_iast (j := 4) dX2_init_70 a2 (by decide) (by decide) ?_
  refine V_dup dX2_init_71 rfl ?_
  refine V_iconst (v := 5) dX2_init_72 (by decide) ?_
  refine V_sipush (v := 1600) dX2_init_73 (by decide) ?_
  refine V_iast (j := 5) dX2_init_76 a2 (by decide) (by decide) ?_
  refine V_dup dX2_init_77 rfl ?_
  refine V_bipush (v := 6) dX2_init_78 (by decide) ?_
  refine V_sipush (v := 2500) dX2_init_80 (by decide) ?_
  refine V_iast (j := 6) dX2_init_83 a2 (by decide) (by decide) ?_
  refine V_dup dX2_init_84 rfl ?_
  refine V_bipush (v := 7) dX2_init_85 (by decide) ?_
  refine V_sipush (v := 3600) dX2_init_87 (by decide) ?_
  refine V_iast (j := 7) dX2_init_90 a2 (by decide) (by decide) ?_
  refine V_putR fw_X2_19 dX2_init_91 (by assumption) rfl (Or.inr ⟨_, rfl⟩) rfl ?_
  refine V_ald0 dX2_init_94 ?_
  refine V_iconst (v := 0) dX2_init_95 (by decide) ?_
  refine V_putZ fw_X2_22 dX2_init_96 (by assumption) (Or.inl rfl) rfl ?_
  refine V_ald0 dX2_init_99 ?_
  refine V_iconst (v := 0) dX2_init_100 (by decide) ?_
  refine V_putI fw_X2_26 dX2_init_101 (by assumption) rfl ?_
  refine V_ald0 dX2_init_104 ?_
  refine V_iconst (v := 0) dX2_init_105 (by decide) ?_
  refine V_putI fw_X2_29 dX2_init_106 (by assumption) rfl ?_
  refine V_ald0 dX2_init_109 ?_
  refine V_iconst (v := 0) dX2_init_110 (by decide) ?_
  refine V_putZ fw_X2_32 dX2_init_111 (by assumption) (Or.inl rfl) rfl ?_
  refine V_ald0 dX2_init_114 ?_
  refine V_iconst (v := 0) dX2_init_115 (by decide) ?_
  refine V_putI fw_X2_35 dX2_init_116 (by assumption) rfl ?_
  refine V_ald0 dX2_init_119 ?_
  refine V_iconst (v := 0) dX2_init_120 (by decide) ?_
  refine V_putZ fw_X2_38 dX2_init_121 (by assumption) (Or.inl rfl) rfl ?_
  refine V_ald0 dX2_init_124 ?_
  refine V_bipush (v := 8) dX2_init_125 (by decide) ?_
  refine V_newarr (N := 8) (Or.inl ⟨rfl, rfl⟩) ma_int dX2_init_127 (by decide) (by decide) (by decide) (by decide) ?_
  refine V_putR fw_X2_41 dX2_init_129 (by assumption) rfl (Or.inr ⟨_, rfl⟩) rfl ?_
  refine V_ald0 dX2_init_132 ?_
  refine V_bipush (v := 8) dX2_init_133 (by decide) ?_
  refine V_newarr (N := 8) (Or.inl ⟨rfl, rfl⟩) ma_int dX2_init_135 (by decide) (by decide) (by decide) (by decide) ?_
  refine V_putR fw_X2_44 dX2_init_137 (by assumption) rfl (Or.inr ⟨_, rfl⟩) rfl ?_
  refine V_ald0 dX2_init_140 ?_
  refine V_bipush (v := 8) dX2_init_141 (by decide) ?_
  refine V_newarr (N := 8) (Or.inl ⟨rfl, rfl⟩) ma_int dX2_init_143 (by decide) (by decide) (by decide) (by decide) ?_
  refine V_putR fw_X2_47 dX2_init_145 (by assumption) rfl (Or.inr ⟨_, rfl⟩) rfl ?_
  exact V_vret rfl dX2_init_148 (by decide) (by decide) (by
  clear a1 a2
  subst hn
  refine ⟨rfl, _, _, _, _, rfl, ⟨by omega, fun k hk => ?_, fun k h1 h2 => ⟨?_, ?_, ?_⟩⟩, ⟨b5, ?_, ⟨by omega, by omega, ?_, by decide⟩, ?_, ⟨by omega, by omega, ?_, by decide⟩, ?_, ⟨by omega, by omega, ?_, by decide⟩, ?_, ⟨by omega, by omega, ?_, by decide⟩, ?_, ⟨by omega, by omega, ?_, by decide⟩⟩, ?_, ?_, ?_, ?_, ?_, ?_, ?_, fun i hi => ?_, ?_, fun i hi => ?_, fun i hi => ?_, fun i hi => ?_, fun i hi => ?_⟩
  any_goals (simp (disch := omega) only [xup_kf, xup_s, xup_k, xup_i, xnw_n, xnw_s]; done)
  any_goals (simp (disch := omega) only [xup_kf, xup_s, xup_k, xup_i, xnw_n, xnw_s]; rfl)
  · have : i = 0 ∨ i = 1 ∨ i = 2 ∨ i = 3 ∨ i = 4 := by omega
    rcases this with rfl | rfl | rfl | rfl | rfl <;> (simp (disch := omega) only [xup_kf, xup_s, xup_k, xup_i, xnw_n, xnw_s]; rfl)
  · have : i = 0 ∨ i = 1 ∨ i = 2 ∨ i = 3 ∨ i = 4 ∨ i = 5 ∨ i = 6 := by omega
    rcases this with rfl | rfl | rfl | rfl | rfl | rfl | rfl <;> (simp (disch := omega) only [xup_kf, xup_s, xup_k, xup_i, xnw_n, xnw_s]; rfl)
  · simp (disch := omega) only [xup_kf, xup_s, xup_k, xup_i, xnw_n, xnw_s]
    unfold rCln; rw [if_neg (by omega), if_neg (by omega), if_neg (by omega), if_neg (by omega), if_neg (by omega), if_neg (by omega), if_neg (by omega), if_neg (by omega), if_neg (by omega), if_neg (by omega), if_neg (by omega)]
  · simp (disch := omega) only [xup_kf, xup_s, xup_k, xup_i, xnw_n, xnw_s]
    unfold rCln; rw [if_neg (by omega), if_neg (by omega), if_neg (by omega), if_neg (by omega), if_neg (by omega), if_neg (by omega), if_neg (by omega), if_neg (by omega), if_neg (by omega), if_neg (by omega), if_neg (by omega)]
  · simp (disch := omega) only [xup_kf, xup_s, xup_k, xup_i, xnw_n, xnw_s]
    unfold rCln; rw [if_neg (by omega), if_neg (by omega), if_neg (by omega), if_neg (by omega), if_neg (by omega), if_neg (by omega), if_neg (by omega), if_neg (by omega), if_neg (by omega), if_neg (by omega), if_neg (by omega)])
end C71

/-! ===== the whole object: simulations; the text's calls, as what they tell ===== -/
section C44
variable {E : xEnv} {l : Launch} {x : Bool} {n : Nat} {K : xKnd} {G : xRef} {M : xMem} {L : xLng} {o T B : Nat} {S : xSp}
theorem WFr.sim {R : xRow} (h : WFr R T B) (hT : T ≤ 1000000) (hB : B < 2 ^ 29) (s : Int64) : ∀ k, k ≤ 99 → WFr (simQ R s k) (T + 12 * k) (B + 216000 * k)
  | 0, _ => h.mono (by omega) (by omega)
  | k + 1, hk => by
    have ih := h.sim hT hB s k (by omega)
    unfold simQ
    generalize simN (simX s (k + 1)) = r
    split
    · exact (ih.set (k := 0) (by decide) (xOkS (lo := 0) (hi := 40) (by decide) rfl rfl (Nat.zero_le _) (by omega) (by decide))).mono (by omega) (by omega)
    · exact (ih.dr (d := r / 1024 % 12) (z := 1 + r / 16 % 60) (by omega) (by omega) (by omega)).mono (by omega) (by omega)
theorem c_X5_simulate (hl9 : l.stackTraces = false) (h : rX n K G o) (hc : CRel M L o S) (hw : WFS S T B) (hT : T ≤ 1000000) (hB : B < 2 ^ 29) (s : Int64) (m9 : Int32) :
    Con E l Y_X5_simulate [.ref o, .long s, .int m9] (x, n, K, G, M, L) (xG (kdO m9 1 99) (some (.int (simA S.2.2.1 s m9.toNatClampNeg))) S o x n K G M L) (xC (kdO m9 1 99) nsA (x, n, K, G, M, L)) := by
  have hr := h
  obtain ⟨h0, -, -, g1, h1, -, -, g3, h3, -⟩ := h
  have h3r := h3
  obtain ⟨h30, gp, hp, -⟩ := h3
  obtain ⟨hp0, gs, hss, -⟩ := hp
  have ip := hc.ipl hw
  have loop : ∀ (m : Nat) (A : Int32), A = simA S.2.2.1 s m → 1 ≤ m → m ≤ 99 → m9 = nI m → kdO m9 1 99 = 0 → ∀ (r k : Nat) (M1 : xMem) (L1 : xLng) (o8 : Option Value), r + k = m → AlE M1 L1 (o + 33) (simQ S.2.2.1 s k) → Fs o M L M1 L1 →
      V E l Y_X5_simulate (xQm E Y_X5_simulate (xG (kdO m9 1 99) (some (.int A)) S o x n K G M L) (xC (kdO m9 1 99) nsA (x, n, K, G, M, L))) (x, n, K, G, M1, L1) (0, 0) 41
        [some (.ref o), some (.long s), none, some (.int m9), some (.long (simX s k)), none, some (.int (simA S.2.2.1 s k)), some (.int (nI k)), o8] [] := by
    intro m A eA m1 m3 em kd r
    subst em
    induction r with
    | zero =>
      intro k M1 L1 o8 hk hA f1
      have e : k = m := by omega
      subst e
      refine V_ild7 dX5_simulate_41 ?_
      refine V_ild3 dX5_simulate_43 ?_
      refine V_icmp_ge (tgt := 138) dX5_simulate_44 (by decide) (fun h44 => ?_) (fun h44 => ?_)
      · refine V_ild6 dX5_simulate_138 ?_
        exact V_iret rfl dX5_simulate_140 (by decide) (by decide) ⟨kd, by rw [eA], _, _, rfl, hc.tri f1, f1.fr⟩
      · exact absurd h44 (nI_nlt (Nat.le_refl k) (by omega))
    | succ r ih =>
      intro k M1 L1 o8 hk hA f1
      have wQ := hw.1.sim hT hB s k (by omega)
      have rl := simN_lt (simX s (k + 1))
      have ex : simX s k * 6364136223846793005 + 1442695040888963407 = simX s (k + 1) := rfl
      have e16 : nI (simN (simX s (k + 1))) - nI (simN (simX s (k + 1))) / 16 * 16 = nI (simN (simX s (k + 1)) % 16) := pkR _ 16 rl (by decide) (by decide)
      have z16 : nI (simN (simX s (k + 1)) % 16) = 0 ↔ simN (simX s (k + 1)) % 16 = 0 := nI_eq (b := 0) (by omega) (by decide)
      have e41 : nI (simN (simX s (k + 1))) / 16 - nI (simN (simX s (k + 1))) / 16 / 41 * 41 = nI (simN (simX s (k + 1)) / 16 % 41) := by
        rw [show nI (simN (simX s (k + 1))) / 16 = nI (simN (simX s (k + 1)) / 16) from pkD _ 16 rl (by decide) (by decide)]; exact pkR _ 41 (by omega) (by decide) (by decide)
      have e60 : 1 + (nI (simN (simX s (k + 1))) / 16 - nI (simN (simX s (k + 1))) / 16 / 60 * 60) = nI (1 + simN (simX s (k + 1)) / 16 % 60) := by
        rw [show nI (simN (simX s (k + 1))) / 16 = nI (simN (simX s (k + 1)) / 16) from pkD _ 16 rl (by decide) (by decide), show nI (simN (simX s (k + 1)) / 16) - nI (simN (simX s (k + 1)) / 16) / 60 * 60 = nI (simN (simX s (k + 1)) / 16 % 60) from pkR _ 60 (by omega) (by decide) (by decide)]; exact nI_add 1 _
      have e12 : nI (simN (simX s (k + 1))) / 1024 - nI (simN (simX s (k + 1))) / 1024 / 12 * 12 = nI (simN (simX s (k + 1)) / 1024 % 12) := by
        rw [show nI (simN (simX s (k + 1))) / 1024 = nI (simN (simX s (k + 1)) / 1024) from pkD _ 1024 rl (by decide) (by decide)]; exact pkR _ 12 (by omega) (by decide) (by decide)
      have sr := sim_r (simX s (k + 1))
      have sQ : simQ S.2.2.1 s (k + 1) = if simN (simX s (k + 1)) % 16 = 0 then upR (simQ S.2.2.1 s k) 1 (nI (simN (simX s (k + 1)) / 16 % 41)) else rDr (simQ S.2.2.1 s k) (nI (simN (simX s (k + 1)) / 1024 % 12)) (nI (1 + simN (simX s (k + 1)) / 16 % 60)) := rfl
      have sA : simA S.2.2.1 s (k + 1) = if simN (simX s (k + 1)) % 16 = 0 then simA S.2.2.1 s k else simA S.2.2.1 s k + kWt (rDrF (simQ S.2.2.1 s k) (nI (simN (simX s (k + 1)) / 1024 % 12)) (nI (1 + simN (simX s (k + 1)) / 16 % 60))) := rfl
      have ih1 := ih (k + 1)
      generalize simX s (k + 1) = X at *
      generalize simN X = y at *
      generalize simQ S.2.2.1 s k = Q at *
      generalize simQ S.2.2.1 s (k + 1) = Q' at *
      generalize simA S.2.2.1 s (k + 1) = A' at *
      generalize simA S.2.2.1 s k = A0 at *
      refine V_ild7 dX5_simulate_41 ?_
      refine V_ild3 dX5_simulate_43 ?_
      refine V_icmp_ge (tgt := 138) dX5_simulate_44 (by decide) (fun h44 => ?_) (fun h44 => ?_)
      · exact absurd (nI_lt (by omega) (by omega)) h44
      · refine V_lld4 dX5_simulate_47 ?_
        refine V_ldc2 dX5_simulate_49 mk_X5_306 ?_
        refine V_lmul dX5_simulate_52 ?_
        refine V_ldc2 dX5_simulate_53 mk_X5_308 ?_
        refine V_ladd dX5_simulate_56 ?_
        rw [ex]
        refine V_lst4 dX5_simulate_57 rfl (by decide) ?_
        refine V_lld4 dX5_simulate_59 ?_
        refine V_bipush (v := 33) dX5_simulate_61 (by decide) ?_
        refine V_lushr dX5_simulate_63 ?_
        refine V_l2i dX5_simulate_64 ?_
        rw [sr]
        refine V_ist8 dX5_simulate_65 rfl (by decide) ?_
        refine V_ild8 dX5_simulate_67 ?_
        refine V_bipush (v := 16) dX5_simulate_69 (by decide) ?_
        refine V_irem dX5_simulate_71 (by decide) ?_
        rw [e16]
        refine V_if_ne (tgt := 98) dX5_simulate_72 (by decide) (fun h72 => ?_) (fun h72 => ?_)
        · rw [z16] at h72
          rw [if_neg h72] at sQ sA
          obtain ⟨w, lf, v, lr, i1, i2, i3, i4⟩ := AlE.fall hA wQ (d := y / 1024 % 12) (z := 1 + y / 16 % 60) (by omega) (by omega) (by omega) (by omega)
          refine V_ild6 dX5_simulate_98 ?_
          refine V_ald0 dX5_simulate_100 ?_
          refine V_getR fd_X5_26 dX5_simulate_101 (by assumption) (by assumption) rfl ?_
          refine V_ild8 dX5_simulate_104 ?_
          refine V_sipush (v := 1024) dX5_simulate_106 (by decide) ?_
          refine V_idiv dX5_simulate_109 (by decide) ?_
          refine V_bipush (v := 12) dX5_simulate_110 (by decide) ?_
          refine V_irem dX5_simulate_112 (by decide) ?_
          rw [e12]
          refine V_iconst (v := 1) dX5_simulate_113 (by decide) ?_
          refine V_ild8 dX5_simulate_114 ?_
          refine V_bipush (v := 16) dX5_simulate_116 (by decide) ?_
          refine V_idiv dX5_simulate_118 (by decide) ?_
          refine V_bipush (v := 60) dX5_simulate_119 (by decide) ?_
          refine V_irem dX5_simulate_121 (by decide) ?_
          refine V_iadd dX5_simulate_122 ?_
          rw [e60]
          refine V_cv2R lk_X5_225 cc_X3_letFall dX5_simulate_123 (by assumption) (c_X3_letFall h3r i1 _ _ i2 rFt_lt) ft_X5_simulate_X3_letFall rfl rfl (Nat.le_of_ble_eq_true rfl) ?_
          refine V_cs1R lk_X5_310 cc_X5_weightOf dX5_simulate_126 (c_X5_weightOf rFt_lt) ft_X5_simulate_X5_weightOf rfl rfl (Nat.le_of_ble_eq_true rfl) ?_
          refine V_iadd dX5_simulate_129 ?_
          refine V_ist6 dX5_simulate_130 rfl (by decide) ?_
          refine V_inc7 dX5_simulate_132 rfl (nI_1 k) ?_
          refine V_goto (tgt := 41) dX5_simulate_135 (by decide) ?_
          first
          | exact (by rw [← sA]; exact ih1 _ _ _ (by omega) (by rw [sQ]; exact i3) (f1.trans ⟨fun k i q => kFallM_k (by omega), fun k i q => kEntL_k (by omega)⟩))
          | exact (by rw [← sA]; exact ih1 _ _ _ (by omega) (by rw [sQ]; exact hA.set (k := 0) (by decide) _) (f1.trans ⟨fun k i q => xup_k (by omega), fun k i q => rfl⟩))
        · rw [z16] at h72
          rw [if_pos h72] at sQ sA
          refine V_ald0 dX5_simulate_75 ?_
          refine V_getR fd_X5_26 dX5_simulate_76 (by assumption) (by assumption) rfl ?_
          refine V_getR fd_X5_109 dX5_simulate_79 (by assumption) (by assumption) rfl ?_
          refine V_getR fd_X5_152 dX5_simulate_82 (by assumption) (by assumption) rfl ?_
          refine V_iconst (v := 0) dX5_simulate_85 (by decide) ?_
          refine V_ild8 dX5_simulate_86 ?_
          refine V_bipush (v := 16) dX5_simulate_88 (by decide) ?_
          refine V_idiv dX5_simulate_90 (by decide) ?_
          refine V_bipush (v := 41) dX5_simulate_91 (by decide) ?_
          refine V_irem dX5_simulate_93 (by decide) ?_
          rw [e41]
          refine V_iast (j := 0) dX5_simulate_94 (by assumption) (by decide) (by decide) ?_
          refine V_goto (tgt := 132) dX5_simulate_95 (by decide) ?_
          refine V_inc7 dX5_simulate_132 rfl (nI_1 k) ?_
          refine V_goto (tgt := 41) dX5_simulate_135 (by decide) ?_
          first
          | exact (by rw [← sA]; exact ih1 _ _ _ (by omega) (by rw [sQ]; exact i3) (f1.trans ⟨fun k i q => kFallM_k (by omega), fun k i q => kEntL_k (by omega)⟩))
          | exact (by rw [← sA]; exact ih1 _ _ _ (by omega) (by rw [sQ]; exact hA.set (k := 0) (by decide) _) (f1.trans ⟨fun k i q => xup_k (by omega), fun k i q => rfl⟩))
  refine Con.mk 5 mp_X5_simulate rfl (ls := [some (.ref o), some (.long s), none, some (.int m9), none, none, none, none, none]) rfl (Nat.le_of_ble_eq_true rfl) ?_
  refine V_ild3 dX5_simulate_0 ?_
  refine V_iconst (v := 1) dX5_simulate_1 (by decide) ?_
  refine V_bipush (v := 99) dX5_simulate_2 (by decide) ?_
  refine V_cs3R lk_X5_53 cc_X5_isOutside dX5_simulate_4 (c_X5_isOutside _ _ _) ft_X5_simulate_X5_isOutside rfl rfl (Nat.le_of_ble_eq_true rfl) ?_
  refine V_if_eq (tgt := 21) dX5_simulate_7 (by decide) (fun h7 => ?_) (fun h7 => ?_)
  · rw [bI0] at h7
    have h7' := h7
    rw [not_or] at h7'
    obtain ⟨m, m1, m3, em⟩ := xIdx1 (N := 99) (by decide) h7'.1 h7'.2
    have ek : m9.toNatClampNeg = m := by rw [em, nI_clamp (by omega)]
    have kd : kdO m9 1 99 = 0 := by unfold kdO; rw [if_neg h7]
    rw [ek]
    refine V_ald0 dX5_simulate_21 ?_
    refine V_getR fd_X5_26 dX5_simulate_22 (by assumption) (by assumption) rfl ?_
    refine V_ald0 dX5_simulate_25 ?_
    refine V_getR fd_X5_19 dX5_simulate_26 (by assumption) (by assumption) rfl ?_
    refine V_cv1U lk_X5_86 cc_X3_copyFrom dX5_simulate_29 h30 (c_X3_copyFrom h1 h3r (by omega) ip) ft_X5_simulate_X3_copyFrom rfl rfl (Nat.le_of_ble_eq_true rfl) ?_
    refine V_lld1 dX5_simulate_32 ?_
    refine V_lst4 dX5_simulate_33 rfl (by decide) ?_
    refine V_iconst (v := 0) dX5_simulate_35 (by decide) ?_
    refine V_ist6 dX5_simulate_36 rfl (by decide) ?_
    refine V_iconst (v := 0) dX5_simulate_38 (by decide) ?_
    refine V_ist7 dX5_simulate_39 rfl (by decide) ?_
    exact loop m _ rfl m1 m3 em kd m 0 _ _ _ (by omega) (hc.2.2.1.cp (by omega)) ⟨fun k i q => kStCp_k (by omega), fun k i q => kAcCpL_k (by omega)⟩
  · rw [bI0, Decidable.not_not] at h7
    exact V_throwW th_X5_304 hl9 rfl dX5_simulate_10 dX5_simulate_13 dX5_simulate_14 dX5_simulate_17 dX5_simulate_20 (by decide) (by decide) (by decide) (by decide) (xC_mk 0 (by unfold kdO; rw [if_pos h7]) rfl)
theorem c_X5_appendG (hl9 : l.stackTraces = false) (h : rX n K G o) (hc : CRel M L o S) (c : Int32) : Con E l Y_X5_append [.ref o, .int c] (x, n, K, G, M, L)
    (xG (if c < 0 ∨ 255 < c then 1 else if S.1 < 100 then 0 else 2) (some (.int (nI (S.1 + 1)))) (sText S c) o x n K G M L) (xC (if c < 0 ∨ 255 < c then 1 else if S.1 < 100 then 0 else 2) nsAS (x, n, K, G, M, L)) := by
  refine (c_X5_append hl9 h hc c).weak ?_ (fun _ _ q => q)
  rintro r q' ⟨q1, q2, q3, q4⟩
  exact ⟨by rw [if_neg q1, if_pos q2], q3, _, _, q4, hc.text q2 c, fun k hk => ⟨fun i => by rw [xup_k (by omega), xup_k (by omega)], fun i => rfl⟩⟩
theorem c_X5_clearTextG (h : rX n K G o) (hc : CRel M L o S) : Con E l Y_X5_clearText [.ref o] (x, n, K, G, M, L) (xG 0 (some (.int (nI S.1))) (sWipe S) o x n K G M L) xF := by
  refine (c_X5_clearText h hc).weak ?_ (fun _ _ q => q)
  rintro r q' ⟨q1, q2⟩
  exact ⟨rfl, q1, _, _, q2, hc.wipe, fun k hk => ⟨fun i => xup_k (by omega), fun i => rfl⟩⟩
/-- a call that only looks tells the same as before -/
theorem xW_G {k : Nat} {A : Value} (hc : CRel M L o S) : ∀ r q', xW k A (x, n, K, G, M, L) r q' → xG k (some A) S o x n K G M L r q' := by
  rintro r q' ⟨h1, h2, h3⟩
  exact ⟨h1, h2, M, L, h3, hc, fun _ _ => ⟨fun _ => rfl, fun _ => rfl⟩⟩
end C44

/-! ===== the reference: empty, append, longest, quiet ===== -/
section P58
variable {R : xRow} {T B : Nat}
theorem rLev_117 (h : WFr R T B) (hT : T ≤ 2 ^ 29) : rLev R (R 0 + nI 117) = 0 := by
  obtain ⟨-, -, ⟨d, d1, d2, hd⟩, -, -, -, -, -, ⟨a, -, a2, ha⟩, ⟨t0, s0, la, e1, e2, e3, e4, e5, e6⟩, -⟩ := h
  unfold rLev
  split
  · rfl
  · rw [e1, e2, hd, ha, nI_add, pkSub (by omega), pk_div (by omega) (by omega) (by omega), nI_clamp (Nat.lt_of_le_of_lt (Nat.div_le_self _ _) (by omega)), halve_eq _ _ (by omega)]
    have k13 : 13 ≤ (t0 + 117 - s0) / d := by
      rw [Nat.le_div_iff_mul_le (by omega)]
      have : 13 * d ≤ 13 * 9 := Nat.mul_le_mul (Nat.le_refl _) d2
      omega
    have : a / 2 ^ ((t0 + 117 - s0) / d) = 0 := Nat.div_eq_of_lt (Nat.lt_of_lt_of_le (show a < 2 ^ 13 by omega) (Nat.pow_le_pow_right (by decide) k13))
    rw [this]; rfl
end P58
section C58
variable {E : xEnv} {l : Launch} {x : Bool} {n : Nat} {K : xKnd} {G : xRef} {M : xMem} {L : xLng} {a m T B : Nat} {S : xSp}
theorem c_X6_empty (h : rM n K G m) (hc : MRel M m S) : Con E l Y_X6_empty [.ref m] (x, n, K, G, M, L) (xN 0 (rInB S.2.2.1 0) (sNow (sPush S) (rEmp S.2.2.1)) m x n K G M L) xF := by
  have hm := h
  obtain ⟨h0, -, -, -, -, g6, h3, -⟩ := h
  obtain ⟨N, hN⟩ : ∃ N, N = 24 := ⟨24, rfl⟩
  have eE : rEmK S.2.2.1 N = rEmp S.2.2.1 := by rw [hN]; rfl
  have loop : ∀ (M1 : xMem), MRel M1 m (sPush S) → M1 m 0 = 0 → Fm m M M1 → ∀ (r k : Nat), r + k = N →
      V E l Y_X6_empty (xQm E Y_X6_empty (xN 0 (rInB S.2.2.1 0) (sNow (sPush S) (rEmp S.2.2.1)) m x n K G M L) xF) (x, n, K, G, xro M1 (m + 3) (rEmK S.2.2.1 k), L) (0, 0) 20 [some (.ref m), some (.int (rInB S.2.2.1 0)), some (.int (nI k))] [] := by
    intro M1 m1 m2 m3 r
    induction r with
    | zero =>
      intro k hk
      have e : k = N := by omega
      subst e
      refine V_ild2 dX6_empty_20 ?_
      refine V_bipush (v := 24) dX6_empty_21 (by decide) ?_
      refine V_icmp_ge (tgt := 42) dX6_empty_23 (by decide) (fun h23 => ?_) (fun h23 => ?_)
      · refine V_ild1 dX6_empty_42 ?_
        exact V_iret rfl dX6_empty_43 (by decide) (by decide) ⟨_, _, rfl, fun _ => rfl, rfl, m1.nowR (fun k q => xro_n q) (by rw [xro_s, eE]) m1.2.2.2.1.1.emp, by rw [xro_n (by omega)]; exact m2, m3.trans (Fm.ro (by omega))⟩
      · exact absurd h23 (nI_nlt (b := 24) (by omega) (by omega))
    | succ r ih =>
      intro k hk
      refine V_ild2 dX6_empty_20 ?_
      refine V_bipush (v := 24) dX6_empty_21 (by decide) ?_
      refine V_icmp_ge (tgt := 42) dX6_empty_23 (by decide) (fun h23 => ?_) (fun h23 => ?_)
      · exact absurd (nI_lt (b := 24) (by omega) (by decide)) h23
      · refine V_ald0 dX6_empty_26 ?_
        refine V_getR fd_X6_16 dX6_empty_27 (by assumption) (by assumption) rfl ?_
        refine V_bipush (v := 23) dX6_empty_30 (by decide) ?_
        refine V_ild2 dX6_empty_32 ?_
        refine V_iadd dX6_empty_33 ?_
        refine V_iconst (v := 0) dX6_empty_34 (by decide) ?_
        refine V_iast (j := 23 + k) dX6_empty_35 (by assumption) (nI_add 23 k) (by omega) ?_
        refine V_inc2 dX6_empty_36 rfl (nI_1 k) ?_
        refine V_goto (tgt := 20) dX6_empty_39 (by decide) ?_
        have := ih (k + 1) (by omega)
        rw [xup_r, xro_s, xro_ro, rEmK_S]
        exact this
  refine Con.mk 2 mp_X6_empty rfl (ls := [some (.ref m), none, none]) rfl (Nat.le_of_ble_eq_true rfl) ?_
  refine V_ald0 dX6_empty_0 ?_
  refine V_iconst (v := 0) dX6_empty_1 (by decide) ?_
  refine V_putI fw_X6_36 dX6_empty_2 (by assumption) rfl ?_
  refine V_ald0 dX6_empty_5 ?_
  refine V_cv0P lk_X6_180 cc_X6_note dX6_empty_6 (by assumption) (c_X6_note hm (hc.ref 0)) ft_X6_empty_X6_note (Nat.le_of_ble_eq_true rfl) (fun o9 q9 hq9 => ?_)
  obtain ⟨rfl, M1, rfl, m1, m2, m3⟩ := hq9
  have r1 : M1 (m + 3) = S.2.2.1 := m1.2.2.1
  show V E l _ _ _ (0, 0) 9 _ []
  refine V_ald0 dX6_empty_9 ?_
  refine V_getR fd_X6_16 dX6_empty_10 (by assumption) (by assumption) rfl ?_
  refine V_iconst (v := 0) dX6_empty_13 (by decide) ?_
  refine V_cs2R lk_X6_136 cc_X6_inBins dX6_empty_14 (c_X6_inBins h3 (w := 0) (by decide)) ft_X6_empty_X6_inBins rfl rfl (Nat.le_of_ble_eq_true rfl) ?_
  rw [r1]
  refine V_ist1 dX6_empty_17 rfl (by decide) ?_
  refine V_iconst (v := 0) dX6_empty_18 (by decide) ?_
  refine V_ist2 dX6_empty_19 rfl (by decide) ?_
  have := loop M1 m1 (by rw [m2, xup_s]) ((Fm.up (by omega)).trans m3) N 0 (by omega)
  rw [rEmK_0, ← r1, xro_id, r1] at this
  exact this
theorem c_X6_append (h : rM n K G m) (hc : MRel M m S) (c : Int32) : Con E l Y_X6_append [.ref m, .int c] (x, n, K, G, M, L)
    (xN (if c < 0 ∨ 255 < c then 1 else if S.1 < 100 then 0 else 2) (nI (S.1 + 1)) (if (if c < 0 ∨ 255 < c then 1 else if S.1 < 100 then 0 else 2) = 0 then sText S c else S) m x n K G M L) xF := by
  obtain ⟨h0, g1, h1, -⟩ := h
  obtain ⟨a2, l100⟩ := hc.1
  have e2 : ∀ v, xup M m 0 v m 2 = nI S.1 := fun v => by rw [xup_i (by decide)]; exact a2
  refine Con.mk 0 mp_X6_append rfl (ls := [some (.ref m), some (.int c)]) rfl (Nat.le_of_ble_eq_true rfl) ?_
  by_cases d : c < 0 ∨ 255 < c
  · rw [if_pos d, if_neg (by decide)]
    refine V_ald0 dX6_append_0 ?_
    refine V_ild1 dX6_append_1 ?_
    refine V_i2l dX6_append_2 ?_
    refine V_lconst (v := 0) dX6_append_3 (by decide) ?_
    refine V_ldc2 dX6_append_4 mk_X6_84 ?_
    refine V_cs3R lk_X6_86 cc_X6_in dX6_append_7 (c_X6_inI c 0 255) ft_X6_append_X6_in rfl rfl (Nat.le_of_ble_eq_true rfl) ?_
    refine V_if_ne (tgt := 17) dX6_append_10 (by decide) (fun h10 => ?_) (fun h10 => ?_)
    · exact absurd (bIf (not_not_intro d)) h10
    · refine V_iconst (v := 1) dX6_append_13 (by decide) ?_
      refine V_goto (tgt := 31) dX6_append_14 (by decide) ?_
      refine V_cv1R lk_X6_93 cc_X6_refused dX6_append_31 (by assumption) (c_X6_refused h0 1) ft_X6_append_X6_refused rfl rfl (Nat.le_of_ble_eq_true rfl) ?_
      refine V_if_eq (tgt := 39) dX6_append_34 (by decide) (fun h34 => ?_) (fun h34 => ?_)
      · exact absurd h34 (by decide)
      · refine V_iconst (v := 0) dX6_append_37 (by decide) ?_
        exact V_iret rfl dX6_append_38 (by decide) (by decide) (xN_b hc rfl _)
  · rw [if_neg d]
    by_cases f : S.1 < 100
    · rw [if_pos f, if_pos rfl]
      have n100 : ¬ nI S.1 = 100 := fun q => by have := (nI_eq (b := 100) (by omega) (by decide)).mp q; omega
      refine V_ald0 dX6_append_0 ?_
      refine V_ild1 dX6_append_1 ?_
      refine V_i2l dX6_append_2 ?_
      refine V_lconst (v := 0) dX6_append_3 (by decide) ?_
      refine V_ldc2 dX6_append_4 mk_X6_84 ?_
      refine V_cs3R lk_X6_86 cc_X6_in dX6_append_7 (c_X6_inI c 0 255) ft_X6_append_X6_in rfl rfl (Nat.le_of_ble_eq_true rfl) ?_
      refine V_if_ne (tgt := 17) dX6_append_10 (by decide) (fun h10 => ?_) (fun h10 => ?_)
      · refine V_ald0 dX6_append_17 ?_
        refine V_getI fd_X6_90 dX6_append_18 (by assumption) rfl ?_
        refine V_bipush (v := 100) dX6_append_21 (by decide) ?_
        refine V_icmp_ne (tgt := 30) dX6_append_23 (by decide) (fun h23 => ?_) (fun h23 => ?_)
        · refine V_iconst (v := 0) dX6_append_30 (by decide) ?_
          refine V_cv1R lk_X6_93 cc_X6_refused dX6_append_31 (by assumption) (c_X6_refused h0 0) ft_X6_append_X6_refused rfl rfl (Nat.le_of_ble_eq_true rfl) ?_
          refine V_if_eq (tgt := 39) dX6_append_34 (by decide) (fun h34 => ?_) (fun h34 => ?_)
          · refine V_ald0 dX6_append_39 ?_
            refine V_getR fd_X6_7 dX6_append_40 (by assumption) (by assumption) rfl ?_
            refine V_ald0 dX6_append_43 ?_
            refine V_getI fd_X6_90 dX6_append_44 (by assumption) rfl ?_
            refine V_ild1 dX6_append_47 ?_
            refine V_iast (j := S.1) dX6_append_48 (by assumption) (e2 0) f ?_
            refine V_ald0 dX6_append_49 ?_
            refine V_dup dX6_append_50 rfl ?_
            refine V_getI fd_X6_90 dX6_append_51 (by assumption) rfl ?_
            refine V_iconst (v := 1) dX6_append_54 (by decide) ?_
            refine V_iadd dX6_append_55 ?_
            rw [xup_k (show m ≠ m + 1 by omega), e2, nI_1]
            refine V_putI fw_X6_90 dX6_append_56 (by assumption) rfl ?_
            refine V_ald0 dX6_append_59 ?_
            refine V_getI fd_X6_90 dX6_append_60 (by assumption) rfl ?_
            exact V_iret rfl dX6_append_63 (by decide) (by decide) ⟨_, _, rfl, fun _ => by rw [xup_s], rfl, hc.txt (fun k q1 q2 => by funext z; rw [xup_k q1, xup_k q2, xup_k q1]) (by rw [xup_i (by decide), xup_k (by omega), xup_i (by decide)]) ⟨by rw [xup_s], by omega⟩ (fun i hi => by
  show _ = if i = S.1 then c else S.2.1 i
  rw [xup_k (by omega)]
  by_cases z : i = S.1
  · rw [if_pos z, z, xup_s]
  · rw [if_neg z, xup_i z, xup_k (by omega)]; exact hc.2.1 i (by omega)), by rw [xup_i (by decide), xup_k (by omega), xup_s]; rfl, (Fm.up (by omega)).trans ((Fm.up (by omega)).trans (Fm.up (by omega)))⟩
          · exact absurd (by decide) h34
        · exact absurd (a2.symm.trans h23) n100
      · exact absurd (bIt d) (by rw [h10]; decide)
    · rw [if_neg f, if_neg (by decide)]
      have e100 : nI S.1 = 100 := by rw [show S.1 = 100 by omega]; rfl
      refine V_ald0 dX6_append_0 ?_
      refine V_ild1 dX6_append_1 ?_
      refine V_i2l dX6_append_2 ?_
      refine V_lconst (v := 0) dX6_append_3 (by decide) ?_
      refine V_ldc2 dX6_append_4 mk_X6_84 ?_
      refine V_cs3R lk_X6_86 cc_X6_in dX6_append_7 (c_X6_inI c 0 255) ft_X6_append_X6_in rfl rfl (Nat.le_of_ble_eq_true rfl) ?_
      refine V_if_ne (tgt := 17) dX6_append_10 (by decide) (fun h10 => ?_) (fun h10 => ?_)
      · refine V_ald0 dX6_append_17 ?_
        refine V_getI fd_X6_90 dX6_append_18 (by assumption) rfl ?_
        refine V_bipush (v := 100) dX6_append_21 (by decide) ?_
        refine V_icmp_ne (tgt := 30) dX6_append_23 (by decide) (fun h23 => ?_) (fun h23 => ?_)
        · exact absurd (a2.trans e100) h23
        · refine V_iconst (v := 2) dX6_append_26 (by decide) ?_
          refine V_goto (tgt := 31) dX6_append_27 (by decide) ?_
          refine V_cv1R lk_X6_93 cc_X6_refused dX6_append_31 (by assumption) (c_X6_refused h0 2) ft_X6_append_X6_refused rfl rfl (Nat.le_of_ble_eq_true rfl) ?_
          refine V_if_eq (tgt := 39) dX6_append_34 (by decide) (fun h34 => ?_) (fun h34 => ?_)
          · exact absurd h34 (by decide)
          · refine V_iconst (v := 0) dX6_append_37 (by decide) ?_
            exact V_iret rfl dX6_append_38 (by decide) (by decide) (xN_b2 hc rfl _)
      · exact absurd (bIt d) (by rw [h10]; decide)
theorem c_X6_quietIn (h : rM n K G m) (hc : MRel M m S) (hw : WFr S.2.2.1 T B) (hT : T ≤ 2 ^ 29) (v : Int32) : Con E l Y_X6_quietIn [.ref m, .int v] (x, n, K, G, M, L) (xN (kdO v 0 5000) (nI (aQui (fun i => decide (¬ v < rLev S.2.2.1 (S.2.2.1 0 + nI i))) 117 0)) S m x n K G M L) xF := by
  obtain ⟨h0, -, -, -, -, g6, h3, -⟩ := h
  have hr := hc.r0
  refine Con.mk 1 mp_X6_quietIn rfl (ls := [some (.ref m), some (.int v), none]) rfl (Nat.le_of_ble_eq_true rfl) ?_
  by_cases c : v < 0 ∨ 5000 < v
  · refine V_ald0 dX6_quietIn_0 ?_
    refine V_ild1 dX6_quietIn_1 ?_
    refine V_i2l dX6_quietIn_2 ?_
    refine V_lconst (v := 0) dX6_quietIn_3 (by decide) ?_
    refine V_ldc2 dX6_quietIn_4 mk_X6_192 ?_
    refine V_cs3R lk_X6_86 cc_X6_in dX6_quietIn_7 (c_X6_inI v 0 5000) ft_X6_quietIn_X6_in rfl rfl (Nat.le_of_ble_eq_true rfl) ?_
    refine V_if_eq (tgt := 17) dX6_quietIn_10 (by decide) (fun h10 => ?_) (fun h10 => ?_)
    · refine V_iconst (v := 1) dX6_quietIn_17 (by decide) ?_
      refine V_cv1R lk_X6_93 cc_X6_refused dX6_quietIn_18 (by assumption) (c_X6_refused h0 1) ft_X6_quietIn_X6_refused rfl rfl (Nat.le_of_ble_eq_true rfl) ?_
      refine V_if_eq (tgt := 26) dX6_quietIn_21 (by decide) (fun h21 => ?_) (fun h21 => ?_)
      · exact absurd h21 (by decide)
      · refine V_iconst (v := 0) dX6_quietIn_24 (by decide) ?_
        exact V_iret rfl dX6_quietIn_25 (by decide) (by decide) (xN_b hc (kdO_1 c) _)
    · exact absurd (bIf (not_not_intro c)) h10
  · have l117 := rLev_117 hw hT
    obtain ⟨N, hN⟩ : ∃ N, N = 117 := ⟨117, rfl⟩
    rw [← hN] at l117 ⊢
    generalize hg : (fun i => decide (¬ v < rLev S.2.2.1 (S.2.2.1 0 + nI i))) = g
    have gg : ∀ i, g i = decide (¬ v < rLev S.2.2.1 (S.2.2.1 0 + nI i)) := fun i => by rw [← hg]
    generalize hA : aQui g N 0 = A
    have loop : ∀ (d i : Nat), d + i = N → A = aQui g d i →
        V E l Y_X6_quietIn (xQm E Y_X6_quietIn (xN (kdO v 0 5000) (nI A) S m x n K G M L) xF) (x, n, K, G, xup M m 0 0, L) (0, 0) 28 [some (.ref m), some (.int v), some (.int (nI i))] [] := by
      intro d
      induction d with
      | zero =>
        intro i hi he
        have e : i = N := by omega
        subst e
        refine V_ald0 dX6_quietIn_28 ?_
        refine V_getR fd_X6_16 dX6_quietIn_29 (by assumption) (by assumption) rfl ?_
        refine V_ald0 dX6_quietIn_32 ?_
        refine V_getR fd_X6_16 dX6_quietIn_33 (by assumption) (by assumption) rfl ?_
        refine V_iconst (v := 0) dX6_quietIn_36 (by decide) ?_
        refine V_iald (j := 0) dX6_quietIn_37 (by assumption) (by decide) (by decide) ?_
        refine V_ild2 dX6_quietIn_38 ?_
        refine V_iadd dX6_quietIn_39 ?_
        refine V_cs2R lk_X6_53 cc_X6_levelAt dX6_quietIn_40 (c_X6_levelAt h3 (by rw [hr]; exact hw.r3) _) ft_X6_quietIn_X6_levelAt rfl rfl (Nat.le_of_ble_eq_true rfl) ?_
        rw [hr, l117]
        refine V_ild1 dX6_quietIn_43 ?_
        refine V_icmp_le (tgt := 53) dX6_quietIn_44 (by decide) (fun h44 => ?_) (fun h44 => ?_)
        · refine V_ild2 dX6_quietIn_53 ?_
          exact V_iret rfl dX6_quietIn_54 (by decide) (by decide) (xN_g hc (kdO_0 c) (by rw [he]; rfl))
        · exact absurd h44 (fun q => c (Or.inl q))
      | succ d ih =>
        intro i hi he
        refine V_ald0 dX6_quietIn_28 ?_
        refine V_getR fd_X6_16 dX6_quietIn_29 (by assumption) (by assumption) rfl ?_
        refine V_ald0 dX6_quietIn_32 ?_
        refine V_getR fd_X6_16 dX6_quietIn_33 (by assumption) (by assumption) rfl ?_
        refine V_iconst (v := 0) dX6_quietIn_36 (by decide) ?_
        refine V_iald (j := 0) dX6_quietIn_37 (by assumption) (by decide) (by decide) ?_
        refine V_ild2 dX6_quietIn_38 ?_
        refine V_iadd dX6_quietIn_39 ?_
        refine V_cs2R lk_X6_53 cc_X6_levelAt dX6_quietIn_40 (c_X6_levelAt h3 (by rw [hr]; exact hw.r3) _) ft_X6_quietIn_X6_levelAt rfl rfl (Nat.le_of_ble_eq_true rfl) ?_
        rw [hr]
        refine V_ild1 dX6_quietIn_43 ?_
        refine V_icmp_le (tgt := 53) dX6_quietIn_44 (by decide) (fun h44 => ?_) (fun h44 => ?_)
        · refine V_ild2 dX6_quietIn_53 ?_
          exact V_iret rfl dX6_quietIn_54 (by decide) (by decide) (xN_g hc (kdO_0 c) (by rw [he, aQui_yes (by rw [gg]; exact decide_eq_true h44)]))
        · refine V_inc2 dX6_quietIn_47 rfl (nI_1 i) ?_
          refine V_goto (tgt := 28) dX6_quietIn_50 (by decide) ?_
          exact ih (i + 1) (by omega) (by rw [he, aQui_no]; rw [gg]; intro q; exact of_decide_eq_true q h44)
    refine V_ald0 dX6_quietIn_0 ?_
    refine V_ild1 dX6_quietIn_1 ?_
    refine V_i2l dX6_quietIn_2 ?_
    refine V_lconst (v := 0) dX6_quietIn_3 (by decide) ?_
    refine V_ldc2 dX6_quietIn_4 mk_X6_192 ?_
    refine V_cs3R lk_X6_86 cc_X6_in dX6_quietIn_7 (c_X6_inI v 0 5000) ft_X6_quietIn_X6_in rfl rfl (Nat.le_of_ble_eq_true rfl) ?_
    refine V_if_eq (tgt := 17) dX6_quietIn_10 (by decide) (fun h10 => ?_) (fun h10 => ?_)
    · exact absurd (bIt c) (by rw [h10]; decide)
    · refine V_iconst (v := 0) dX6_quietIn_13 (by decide) ?_
      refine V_goto (tgt := 18) dX6_quietIn_14 (by decide) ?_
      refine V_cv1R lk_X6_93 cc_X6_refused dX6_quietIn_18 (by assumption) (c_X6_refused h0 0) ft_X6_quietIn_X6_refused rfl rfl (Nat.le_of_ble_eq_true rfl) ?_
      refine V_if_eq (tgt := 26) dX6_quietIn_21 (by decide) (fun h21 => ?_) (fun h21 => ?_)
      · refine V_iconst (v := 0) dX6_quietIn_26 (by decide) ?_
        refine V_ist2 dX6_quietIn_27 rfl (by decide) ?_
        exact loop N 0 (by omega) hA.symm
      · exact absurd (by decide) h21
end C58

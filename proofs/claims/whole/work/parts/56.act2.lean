/-! ===== the reference: what it notes; drop, pass, set ===== -/
section P56
variable {M M' : xMem} {L : xLng} {a m k : Nat} {R R' Q : xRow} {T B c : Nat} {S : xSp} {H : Nat → xRow}
theorem MRel.dia (h : MRel M m S) (o : ∀ k, k ≠ m → k ≠ m + 5 → M' k = M k) (o2 : M' m 2 = M m 2) (hc : M' m 9 = nI c ∧ c ≤ 14) (hd : ∀ j, j < c → Sh (H j) ∧ ∀ i, i < 191 → M' (m + 5) (191 * (c - 1 - j) + i) = H j i) : MRel M' m (S.1, S.2.1, S.2.2.1, c, H, S.2.2.2.2.2) := by
  obtain ⟨⟨a1, a2⟩, b, r, ⟨d1, d2, d3⟩, -, -, g, i, j⟩ := h
  refine ⟨⟨o2.trans a1, a2⟩, ?_, ?_, ⟨d1, ?_, ?_⟩, hc, hd, ?_, ?_, ?_⟩
  · rw [o _ (by omega) (by omega)]; exact b
  · rw [o _ (by omega) (by omega)]; exact r
  · rw [o _ (by omega) (by omega)]; exact d2
  · rw [o _ (by omega) (by omega)]; exact d3
  · rw [o _ (by omega) (by omega)]; exact g
  · rw [o _ (by omega) (by omega)]; exact i
  · rw [o _ (by omega) (by omega)]; exact j
theorem MRel.nowR (h : MRel M m S) (o : ∀ k, k ≠ m + 3 → M' k = M k) (hR : M' (m + 3) = R') (sh : Sh R') : MRel M' m (sNow S R') := by
  obtain ⟨⟨a1, a2⟩, b, r, ⟨d1, d2, d3⟩, e, f, g, i, j⟩ := h
  unfold MRel
  rw [o m (by omega), o (m + 1) (by omega), o (m + 2) (by omega), o (m + 4) (by omega), o (m + 5) (by omega), o (m + 6) (by omega), o (m + 7) (by omega)]
  exact ⟨⟨a1, a2⟩, b, hR, ⟨sh, d2, d3⟩, e, f, g, i, j⟩
theorem MRel.oth (h : MRel M m S) (o : ∀ k, k ≠ m + 2 → k ≠ m + 4 → M' k = M k) (s2 : Sh (M' (m + 2))) (s4 : Sh (M' (m + 4))) : MRel M' m S := by
  obtain ⟨⟨a1, a2⟩, b, r, ⟨d1, d2, d3⟩, e, f, g, i, j⟩ := h
  unfold MRel
  rw [o m (by omega) (by omega), o (m + 1) (by omega) (by omega), o (m + 3) (by omega) (by omega), o (m + 5) (by omega) (by omega), o (m + 6) (by omega) (by omega), o (m + 7) (by omega) (by omega)]
  exact ⟨⟨a1, a2⟩, b, r, ⟨d1, s2, s4⟩, e, f, g, i, j⟩
theorem cpR_in {d s k i : Nat} {F : xRow} (h : i < k) : cpR R d F s k (d + i) = F (s + i) := by unfold cpR; rw [if_pos (by omega)]; congr 1; omega
theorem cpR_out {d s k i : Nat} {F : xRow} (h : i < d ∨ d + k ≤ i) : cpR R d F s k i = R i := by unfold cpR; rw [if_neg (by omega)]
/-- a whole row copied is that row -/
theorem cpR_row (h : Sh R) (h2 : Sh Q) : cpR R 0 Q 0 191 = Q := by
  funext i
  by_cases c : i < 191
  · have := cpR_in (R := R) (d := 0) (s := 0) (k := 191) (i := i) (F := Q) c
    rwa [Nat.zero_add] at this
  · rw [cpR_out (by omega), h i (by omega), h2 i (by omega)]
theorem Sh.dr (h : Sh R) (hw : WFr R T B) (t z : Int32) : Sh (rDr R t z) := by
  obtain ⟨l60, e47⟩ := hw.len
  obtain ⟨l40, e108⟩ := hw.rlen
  have hf : rDrF R t z < 4 := rFt_lt
  intro i hi
  show rDrM R (xLf R) (xLr R) t z i = 0
  rw [rDrM_eq]
  unfold rEn
  rw [rRc_out (by omega) l40, rTr_out (by omega) l60, upR_n (by omega), upR_n (by omega), rFl_o (by omega), rGo_o (by omega)]
  exact h i hi
theorem Sh.go (h : Sh R) (t : Int32) : Sh (rGo R t) := fun i hi => by rw [rGo_o (by omega)]; exact h i hi
end P56
section C56
variable {E : xEnv} {l : Launch} {x : Bool} {n : Nat} {K : xKnd} {G : xRef} {M : xMem} {L : xLng} {a m T B : Nat} {S : xSp}
theorem c_X6_note (h : rM n K G m) (hc : MRel M m S) : Con E l Y_X6_note [.ref m] (x, n, K, G, M, L) (fun r q' => r = none ∧ ∃ M', q' = (x, n, K, G, M', L) ∧ MRel M' m (sPush S) ∧ M' m 0 = M m 0 ∧ Fm m M M') xF := by
  obtain ⟨h0, -, -, -, -, g6, h3, -, -, g8, h5, -⟩ := h
  have hc0 := hc
  obtain ⟨-, -, hr, ⟨sR, -, -⟩, ⟨a9, a14⟩, dd, -, -, -⟩ := hc
  have tail : ∀ (M1 : xMem) (c1 : Nat), c1 < 14 → c1 + 1 = min (S.2.2.2.1 + 1) 14 → M1 m 9 = nI c1 → (∀ i, i ≠ 9 → M1 m i = M m i) → (∀ k, k ≠ m → k ≠ m + 5 → M1 k = M k) →
      (∀ j, j < c1 → ∀ i, i < 191 → M1 (m + 5) (191 * (c1 - 1 - j) + i) = S.2.2.2.2.1 j i) →
      V E l Y_X6_note (xQm E Y_X6_note (fun r q' => r = none ∧ ∃ M', q' = (x, n, K, G, M', L) ∧ MRel M' m (sPush S) ∧ M' m 0 = M m 0 ∧ Fm m M M') xF) (x, n, K, G, M1, L) (0, 0) 37 [some (.ref m)] [] := by
    intro M1 c1 c2 ec e9 em ek ed
    have ei : (191 : Int32) * nI c1 = nI (191 * c1) := pk_mul 191 c1
    have r1 : M1 (m + 3) = S.2.2.1 := (ek _ (by omega) (by omega)).trans hr
    have x9 : xro M1 (m + 5) (cpR (M1 (m + 5)) (191 * c1) (M1 (m + 3)) 0 191) m 9 = nI c1 := by rw [xro_n (by omega)]; exact e9
    have fin : MRel (xup (xro M1 (m + 5) (cpR (M1 (m + 5)) (191 * c1) (M1 (m + 3)) 0 191)) m 9 (nI (c1 + 1))) m (sPush S) := by
      show MRel _ m (S.1, S.2.1, S.2.2.1, min (S.2.2.2.1 + 1) 14, _, S.2.2.2.2.2)
      refine hc0.dia (fun k q1 q2 => ?_) ?_ ⟨by rw [xup_s, ec], by omega⟩ (fun j hj => ?_)
      · funext z; rw [xup_k q1, xro_n q2, ek k q1 q2]
      · rw [xup_i (by decide), xro_n (by omega), em 2 (by decide)]
      · rw [← ec] at hj
        by_cases z : j = 0
        · subst z
          rw [if_pos rfl]
          refine ⟨sR, fun i hi => ?_⟩
          rw [xup_k (by omega), xro_s, ← ec, show 191 * (c1 + 1 - 1 - 0) + i = 191 * c1 + i by omega, cpR_in hi, r1, Nat.zero_add]
        · rw [if_neg z]
          refine ⟨(dd (j - 1) (by omega)).1, fun i hi => ?_⟩
          have := ed (j - 1) (by omega) i hi
          rw [xup_k (by omega), xro_s, ← ec, cpR_out (by omega), show c1 + 1 - 1 - j = c1 - 1 - (j - 1) by omega, this]
    refine V_ald0 dX6_note_37 ?_
    refine V_getR fd_X6_16 dX6_note_38 (by assumption) (by assumption) rfl ?_
    refine V_iconst (v := 0) dX6_note_41 (by decide) ?_
    refine V_ald0 dX6_note_42 ?_
    refine V_getR fd_X6_22 dX6_note_43 (by assumption) (by assumption) rfl ?_
    refine V_sipush (v := 191) dX6_note_46 (by decide) ?_
    refine V_ald0 dX6_note_49 ?_
    refine V_getI fd_X6_46 dX6_note_50 (by assumption) rfl ?_
    refine V_imul dX6_note_53 ?_
    rw [e9, ei]
    refine V_sipush (v := 191) dX6_note_54 (by decide) ?_
    refine V_cs5U lk_X6_49 cc_X6_copy dX6_note_57 (c_X6_copy h3 h5 (s := 0) (d := 191 * c1) (m := 191) (by decide) (by omega) (Or.inl (by omega))) ft_X6_note_X6_copy rfl rfl (Nat.le_of_ble_eq_true rfl) ?_
    refine V_ald0 dX6_note_60 ?_
    refine V_dup dX6_note_61 rfl ?_
    refine V_getI fd_X6_46 dX6_note_62 (by assumption) rfl ?_
    refine V_iconst (v := 1) dX6_note_65 (by decide) ?_
    refine V_iadd dX6_note_66 ?_
    rw [x9, nI_1]
    refine V_putI fw_X6_46 dX6_note_67 (by assumption) rfl ?_
    exact V_vret rfl dX6_note_70 (by decide) (by decide) ⟨rfl, _, rfl, fin, by rw [xup_i (by decide), xro_n (by omega), em 0 (by decide)], fun k q => by funext z; rw [xup_k (by omega), xro_n (by omega), ek k (by omega) (by omega)]⟩
  refine Con.mk 0 mp_X6_note rfl (ls := [some (.ref m)]) rfl (Nat.le_of_ble_eq_true rfl) ?_
  refine V_ald0 dX6_note_0 ?_
  refine V_getI fd_X6_46 dX6_note_1 (by assumption) rfl ?_
  refine V_bipush (v := 14) dX6_note_4 (by decide) ?_
  refine V_icmp_ne (tgt := 37) dX6_note_6 (by decide) (fun h6 => ?_) (fun h6 => ?_)
  · first
    | (guard_hyp h6 : ¬ M m 9 = 14
       rw [a9] at h6
       have n14 : S.2.2.2.1 ≠ 14 := fun q => h6 (by rw [q]; rfl)
       exact tail M S.2.2.2.1 (by omega) (by omega) a9 (fun _ _ => rfl) (fun _ _ _ => rfl) (fun j hj i hi => (dd j hj).2 i hi))
    | (refine tail _ 13 (by decide) (by omega) xup_s (fun i hi => by rw [xup_i hi, xro_n (by omega)]) (fun k q1 q2 => by funext z; rw [xup_k q1, xro_n q2]) (fun j hj i hi => ?_)
       have := (dd j (by omega)).2 i hi
       rw [c14] at this
       rw [xup_k (by omega), xro_s]
       have e := cpR_in (R := M (m + 5)) (d := 0) (s := 191) (k := 2483) (i := 191 * (13 - 1 - j) + i) (F := M (m + 5)) (by omega)
       rw [Nat.zero_add] at e
       rw [e, show 191 + (191 * (13 - 1 - j) + i) = 191 * (14 - 1 - j) + i by omega, this])
  · rw [a9] at h6
    have c14 : S.2.2.2.1 = 14 := (nI_eq (b := 14) (by omega) (by decide)).mp h6
    refine V_ald0 dX6_note_9 ?_
    refine V_getR fd_X6_22 dX6_note_10 (by assumption) (by assumption) rfl ?_
    refine V_sipush (v := 191) dX6_note_13 (by decide) ?_
    refine V_ald0 dX6_note_16 ?_
    refine V_getR fd_X6_22 dX6_note_17 (by assumption) (by assumption) rfl ?_
    refine V_iconst (v := 0) dX6_note_20 (by decide) ?_
    refine V_sipush (v := 2483) dX6_note_21 (by decide) ?_
    refine V_cs5U lk_X6_49 cc_X6_copy dX6_note_24 (c_X6_copy h5 h5 (s := 191) (d := 0) (m := 2483) (by decide) (by decide) (Or.inr (by decide))) ft_X6_note_X6_copy rfl rfl (Nat.le_of_ble_eq_true rfl) ?_
    refine V_ald0 dX6_note_27 ?_
    refine V_dup dX6_note_28 rfl ?_
    refine V_getI fd_X6_46 dX6_note_29 (by assumption) rfl ?_
    refine V_iconst (v := 1) dX6_note_32 (by decide) ?_
    refine V_isub dX6_note_33 ?_
    rw [xro_n (show m ≠ m + 5 by omega), a9, c14, show nI 14 - 1 = nI 13 from pkSub (b := 1) (by decide)]
    refine V_putI fw_X6_46 dX6_note_34 (by assumption) rfl ?_
    first
    | (guard_hyp h6 : ¬ M m 9 = 14
       rw [a9] at h6
       have n14 : S.2.2.2.1 ≠ 14 := fun q => h6 (by rw [q]; rfl)
       exact tail M S.2.2.2.1 (by omega) (by omega) a9 (fun _ _ => rfl) (fun _ _ _ => rfl) (fun j hj i hi => (dd j hj).2 i hi))
    | (refine tail _ 13 (by decide) (by omega) xup_s (fun i hi => by rw [xup_i hi, xro_n (by omega)]) (fun k q1 q2 => by funext z; rw [xup_k q1, xro_n q2]) (fun j hj i hi => ?_)
       have := (dd j (by omega)).2 i hi
       rw [c14] at this
       rw [xup_k (by omega), xro_s]
       have e := cpR_in (R := M (m + 5)) (d := 0) (s := 191) (k := 2483) (i := 191 * (13 - 1 - j) + i) (F := M (m + 5)) (by omega)
       rw [Nat.zero_add] at e
       rw [e, show 191 + (191 * (13 - 1 - j) + i) = 191 * (14 - 1 - j) + i by omega, this])
theorem c_X6_drop (h : rM n K G m) (hc : MRel M m S) (hw : WFr S.2.2.1 T B) (t z : Int32) : Con E l Y_X6_drop [.ref m, .int t, .int z] (x, n, K, G, M, L)
    (xN (kdFall t z) (nI (rDrF S.2.2.1 t z)) (if kdFall t z = 0 then sNow (sPush S) (rDr S.2.2.1 t z) else S) m x n K G M L) xF := by
  have hm := h
  obtain ⟨h0, -, -, -, -, g6, h3, -⟩ := h
  have kc : kdFall t z = 0 ∨ kdFall t z = 1 := by unfold kdFall; split; exact Or.inl rfl; exact Or.inr rfl
  refine Con.mk 0 mp_X6_drop rfl (ls := [some (.ref m), some (.int t), some (.int z)]) rfl (Nat.le_of_ble_eq_true rfl) ?_
  rcases kc with c | c
  · rw [if_pos c]
    refine V_ald0 dX6_drop_0 ?_
    refine V_ild1 dX6_drop_1 ?_
    refine V_ild2 dX6_drop_2 ?_
    refine V_cs2R lk_X6_177 cc_X6_isDrop dX6_drop_3 (c_X6_isDrop t z) ft_X6_drop_X6_isDrop rfl rfl (Nat.le_of_ble_eq_true rfl) ?_
    refine V_if_eq (tgt := 13) dX6_drop_6 (by decide) (fun h6 => ?_) (fun h6 => ?_)
    · exact absurd (bIt c) (by rw [h6]; decide)
    · refine V_iconst (v := 0) dX6_drop_9 (by decide) ?_
      refine V_goto (tgt := 14) dX6_drop_10 (by decide) ?_
      refine V_cv1R lk_X6_93 cc_X6_refused dX6_drop_14 (by assumption) (c_X6_refused h0 0) ft_X6_drop_X6_refused rfl rfl (Nat.le_of_ble_eq_true rfl) ?_
      refine V_if_eq (tgt := 22) dX6_drop_17 (by decide) (fun h17 => ?_) (fun h17 => ?_)
      · refine V_ald0 dX6_drop_22 ?_
        refine V_cv0P lk_X6_180 cc_X6_note dX6_drop_23 (by assumption) (c_X6_note hm (hc.ref 0)) ft_X6_drop_X6_note (Nat.le_of_ble_eq_true rfl) (fun o9 q9 hq9 => ?_)
        obtain ⟨rfl, M1, rfl, m1, m2, m3⟩ := hq9
        have r1 : M1 (m + 3) = S.2.2.1 := m1.2.2.1
        show V E l _ _ _ (0, 0) 26 _ []
        refine V_ald0 dX6_drop_26 ?_
        refine V_getR fd_X6_16 dX6_drop_27 (by assumption) (by assumption) rfl ?_
        refine V_ild1 dX6_drop_30 ?_
        refine V_ild2 dX6_drop_31 ?_
        refine V_cs3R lk_X6_117 cc_X6_goDrop dX6_drop_32 (c_X6_goDrop h3 (by rw [r1]; exact hw) t z) ft_X6_drop_X6_goDrop rfl rfl (Nat.le_of_ble_eq_true rfl) ?_
        exact V_iret rfl dX6_drop_35 (by decide) (by decide) ⟨_, _, rfl, fun _ => by rw [r1], rfl, m1.nowR (fun k q => xro_n q) (by rw [xro_s, r1]) (m1.2.2.2.1.1.dr hw t z), by rw [xro_n (by omega), m2, xup_s, c]; rfl, (Fm.up (by omega)).trans (m3.trans (Fm.ro (by omega)))⟩
      · exact absurd (by decide) h17
  · rw [if_neg (by omega)]
    refine V_ald0 dX6_drop_0 ?_
    refine V_ild1 dX6_drop_1 ?_
    refine V_ild2 dX6_drop_2 ?_
    refine V_cs2R lk_X6_177 cc_X6_isDrop dX6_drop_3 (c_X6_isDrop t z) ft_X6_drop_X6_isDrop rfl rfl (Nat.le_of_ble_eq_true rfl) ?_
    refine V_if_eq (tgt := 13) dX6_drop_6 (by decide) (fun h6 => ?_) (fun h6 => ?_)
    · refine V_iconst (v := 1) dX6_drop_13 (by decide) ?_
      refine V_cv1R lk_X6_93 cc_X6_refused dX6_drop_14 (by assumption) (c_X6_refused h0 1) ft_X6_drop_X6_refused rfl rfl (Nat.le_of_ble_eq_true rfl) ?_
      refine V_if_eq (tgt := 22) dX6_drop_17 (by decide) (fun h17 => ?_) (fun h17 => ?_)
      · exact absurd h17 (by decide)
      · refine V_iconst (v := 0) dX6_drop_20 (by decide) ?_
        exact V_iret rfl dX6_drop_21 (by decide) (by decide) (xN_b hc c _)
    · exact absurd (bIf (by omega)) h6
theorem c_X6_pass (h : rM n K G m) (hc : MRel M m S) (hw : WFr S.2.2.1 T B) (t : Int32) : Con E l Y_X6_pass [.ref m, .int t] (x, n, K, G, M, L)
    (xN (kdO t 1 99) (rLev (rGo S.2.2.1 t) (rGo S.2.2.1 t 0)) (if kdO t 1 99 = 0 then sNow (sPush S) (rGo S.2.2.1 t) else S) m x n K G M L) xF := by
  have hm := h
  obtain ⟨h0, -, -, -, -, g6, h3, -⟩ := h
  refine Con.mk 0 mp_X6_pass rfl (ls := [some (.ref m), some (.int t)]) rfl (Nat.le_of_ble_eq_true rfl) ?_
  by_cases c : t < 1 ∨ 99 < t
  · rw [kdO_1 c, if_neg (by decide)]
    refine V_ald0 dX6_pass_0 ?_
    refine V_ild1 dX6_pass_1 ?_
    refine V_i2l dX6_pass_2 ?_
    refine V_lconst (v := 1) dX6_pass_3 (by decide) ?_
    refine V_ldc2 dX6_pass_4 mk_X6_173 ?_
    refine V_cs3R lk_X6_86 cc_X6_in dX6_pass_7 (c_X6_inI t 1 99) ft_X6_pass_X6_in rfl rfl (Nat.le_of_ble_eq_true rfl) ?_
    refine V_if_eq (tgt := 17) dX6_pass_10 (by decide) (fun h10 => ?_) (fun h10 => ?_)
    · refine V_iconst (v := 1) dX6_pass_17 (by decide) ?_
      refine V_cv1R lk_X6_93 cc_X6_refused dX6_pass_18 (by assumption) (c_X6_refused h0 1) ft_X6_pass_X6_refused rfl rfl (Nat.le_of_ble_eq_true rfl) ?_
      refine V_if_eq (tgt := 26) dX6_pass_21 (by decide) (fun h21 => ?_) (fun h21 => ?_)
      · exact absurd h21 (by decide)
      · refine V_iconst (v := 0) dX6_pass_24 (by decide) ?_
        exact V_iret rfl dX6_pass_25 (by decide) (by decide) (xN_b hc rfl _)
    · exact absurd (bIf (not_not_intro c)) h10
  · rw [kdO_0 c, if_pos rfl]
    refine V_ald0 dX6_pass_0 ?_
    refine V_ild1 dX6_pass_1 ?_
    refine V_i2l dX6_pass_2 ?_
    refine V_lconst (v := 1) dX6_pass_3 (by decide) ?_
    refine V_ldc2 dX6_pass_4 mk_X6_173 ?_
    refine V_cs3R lk_X6_86 cc_X6_in dX6_pass_7 (c_X6_inI t 1 99) ft_X6_pass_X6_in rfl rfl (Nat.le_of_ble_eq_true rfl) ?_
    refine V_if_eq (tgt := 17) dX6_pass_10 (by decide) (fun h10 => ?_) (fun h10 => ?_)
    · exact absurd (bIt c) (by rw [h10]; decide)
    · refine V_iconst (v := 0) dX6_pass_13 (by decide) ?_
      refine V_goto (tgt := 18) dX6_pass_14 (by decide) ?_
      refine V_cv1R lk_X6_93 cc_X6_refused dX6_pass_18 (by assumption) (c_X6_refused h0 0) ft_X6_pass_X6_refused rfl rfl (Nat.le_of_ble_eq_true rfl) ?_
      refine V_if_eq (tgt := 26) dX6_pass_21 (by decide) (fun h21 => ?_) (fun h21 => ?_)
      · refine V_ald0 dX6_pass_26 ?_
        refine V_cv0P lk_X6_180 cc_X6_note dX6_pass_27 (by assumption) (c_X6_note hm (hc.ref 0)) ft_X6_pass_X6_note (Nat.le_of_ble_eq_true rfl) (fun o9 q9 hq9 => ?_)
        obtain ⟨rfl, M1, rfl, m1, m2, m3⟩ := hq9
        have r1 : M1 (m + 3) = S.2.2.1 := m1.2.2.1
        show V E l _ _ _ (0, 0) 30 _ []
        refine V_ald0 dX6_pass_30 ?_
        refine V_getR fd_X6_16 dX6_pass_31 (by assumption) (by assumption) rfl ?_
        refine V_ild1 dX6_pass_34 ?_
        refine V_cs2U lk_X6_72 cc_X6_goTicks dX6_pass_35 (c_X6_goTicks h3 t) ft_X6_pass_X6_goTicks rfl rfl (Nat.le_of_ble_eq_true rfl) ?_
        rw [r1]
        refine V_ald0 dX6_pass_38 ?_
        refine V_getR fd_X6_16 dX6_pass_39 (by assumption) (by assumption) rfl ?_
        refine V_cs1R lk_X6_68 cc_X6_level dX6_pass_42 (c_X6_level h3 (by rw [xro_s, rGo_o (by decide)]; exact hw.r3)) ft_X6_pass_X6_level rfl rfl (Nat.le_of_ble_eq_true rfl) ?_
        exact V_iret rfl dX6_pass_45 (by decide) (by decide) ⟨_, _, rfl, fun _ => by rw [xro_s], rfl, m1.nowR (fun k q => xro_n q) (by rw [xro_s]) (m1.2.2.2.1.1.go t), by rw [xro_n (by omega), m2, xup_s]; rfl, (Fm.up (by omega)).trans (m3.trans (Fm.ro (by omega)))⟩
      · exact absurd (by decide) h21
theorem c_X6_set (h : rM n K G m) (hc : MRel M m S) (w v : Int32) : Con E l Y_X6_set [.ref m, .int w, .int v] (x, n, K, G, M, L)
    (xN (kdSet w v) (S.2.2.1 (1 + w.toNatClampNeg)) (if kdSet w v = 0 then sNow (sPush S) (upR S.2.2.1 (1 + w.toNatClampNeg) v) else S) m x n K G M L) xF := by
  have hm := h
  obtain ⟨h0, -, -, -, -, g6, h3, -⟩ := h
  refine Con.mk 1 mp_X6_set rfl (ls := [some (.ref m), some (.int w), some (.int v), none]) rfl (Nat.le_of_ble_eq_true rfl) ?_
  by_cases cc : ¬ (w < 0 ∨ 4 < w) ∧ ¬ (v < xLeast w.toNatClampNeg ∨ xGreatest w.toNatClampNeg < v)
  · have c : kdSet w v = 0 := if_pos cc
    have c1 := cc.1
    rw [not_or] at c1
    obtain ⟨j, hj, ej⟩ := xIdx (N := 4) (by decide) c1.1 c1.2
    have e1 : w.toNatClampNeg = j := by rw [ej, nI_clamp (by omega)]
    have e2 : (1 : Int32) + w = nI (1 + j) := by rw [ej]; exact nI_add 1 j
    rw [if_pos c, e1]
    refine V_ald0 dX6_set_0 ?_
    refine V_ild1 dX6_set_1 ?_
    refine V_ild2 dX6_set_2 ?_
    refine V_cs2R lk_X6_189 cc_X6_isSetting dX6_set_3 (c_X6_isSetting w v) ft_X6_set_X6_isSetting rfl rfl (Nat.le_of_ble_eq_true rfl) ?_
    refine V_if_eq (tgt := 13) dX6_set_6 (by decide) (fun h6 => ?_) (fun h6 => ?_)
    · exact absurd (bIt c) (by rw [h6]; decide)
    · refine V_iconst (v := 0) dX6_set_9 (by decide) ?_
      refine V_goto (tgt := 14) dX6_set_10 (by decide) ?_
      refine V_cv1R lk_X6_93 cc_X6_refused dX6_set_14 (by assumption) (c_X6_refused h0 0) ft_X6_set_X6_refused rfl rfl (Nat.le_of_ble_eq_true rfl) ?_
      refine V_if_eq (tgt := 22) dX6_set_17 (by decide) (fun h17 => ?_) (fun h17 => ?_)
      · refine V_ald0 dX6_set_22 ?_
        refine V_cv0P lk_X6_180 cc_X6_note dX6_set_23 (by assumption) (c_X6_note hm (hc.ref 0)) ft_X6_set_X6_note (Nat.le_of_ble_eq_true rfl) (fun o9 q9 hq9 => ?_)
        obtain ⟨rfl, M1, rfl, m1, m2, m3⟩ := hq9
        have r1 : M1 (m + 3) = S.2.2.1 := m1.2.2.1
        show V E l _ _ _ (0, 0) 26 _ []
        refine V_ald0 dX6_set_26 ?_
        refine V_getR fd_X6_16 dX6_set_27 (by assumption) (by assumption) rfl ?_
        refine V_iconst (v := 1) dX6_set_30 (by decide) ?_
        refine V_ild1 dX6_set_31 ?_
        refine V_iadd dX6_set_32 ?_
        refine V_iald (j := 1 + j) dX6_set_33 (by assumption) e2 (by omega) ?_
        refine V_ist3 dX6_set_34 rfl (by decide) ?_
        refine V_ald0 dX6_set_35 ?_
        refine V_getR fd_X6_16 dX6_set_36 (by assumption) (by assumption) rfl ?_
        refine V_iconst (v := 1) dX6_set_39 (by decide) ?_
        refine V_ild1 dX6_set_40 ?_
        refine V_iadd dX6_set_41 ?_
        refine V_ild2 dX6_set_42 ?_
        refine V_iast (j := 1 + j) dX6_set_43 (by assumption) e2 (by omega) ?_
        refine V_ild3 dX6_set_44 ?_
        exact V_iret rfl dX6_set_45 (by decide) (by decide) ⟨_, _, rfl, fun _ => by rw [r1], rfl, by rw [xup_r]; exact m1.nowR (fun k q => xro_n q) (by rw [xro_s, r1]) (m1.2.2.2.1.1.up (by omega) v), by rw [xup_k (by omega), m2, xup_s, c]; rfl, (Fm.up (by omega)).trans (m3.trans (Fm.up (by omega)))⟩
      · exact absurd (by decide) h17
  · have c : kdSet w v = 1 := if_neg cc
    rw [if_neg (by omega)]
    refine V_ald0 dX6_set_0 ?_
    refine V_ild1 dX6_set_1 ?_
    refine V_ild2 dX6_set_2 ?_
    refine V_cs2R lk_X6_189 cc_X6_isSetting dX6_set_3 (c_X6_isSetting w v) ft_X6_set_X6_isSetting rfl rfl (Nat.le_of_ble_eq_true rfl) ?_
    refine V_if_eq (tgt := 13) dX6_set_6 (by decide) (fun h6 => ?_) (fun h6 => ?_)
    · refine V_iconst (v := 1) dX6_set_13 (by decide) ?_
      refine V_cv1R lk_X6_93 cc_X6_refused dX6_set_14 (by assumption) (c_X6_refused h0 1) ft_X6_set_X6_refused rfl rfl (Nat.le_of_ble_eq_true rfl) ?_
      refine V_if_eq (tgt := 22) dX6_set_17 (by decide) (fun h17 => ?_) (fun h17 => ?_)
      · exact absurd h17 (by decide)
      · refine V_iconst (v := 0) dX6_set_20 (by decide) ?_
        exact V_iret rfl dX6_set_21 (by decide) (by decide) (xN_b hc c _)
    · exact absurd (bIf (by omega)) h6
end C56

/-! ===== the reference: the text, empty, undo, what would be ===== -/
def rEmK (R : xRow) (k : Nat) : xRow := fun i => if 23 ≤ i ∧ i < 23 + k then 0 else R i
section P57
variable {M M' : xMem} {L : xLng} {a m k : Nat} {R R' Q : xRow} {T B c tl : Nat} {S : xSp} {H : Nat → xRow} {tc : Nat → Int32}
theorem MRel.txt (h : MRel M m S) (o : ∀ k, k ≠ m → k ≠ m + 1 → M' k = M k) (o9 : M' m 9 = M m 9) (ht : M' m 2 = nI tl ∧ tl ≤ 100) (hc : ∀ i, i < tl → M' (m + 1) i = tc i) : MRel M' m (tl, tc, S.2.2) := by
  obtain ⟨-, -, r, ⟨d1, d2, d3⟩, e, f, g, i, j⟩ := h
  unfold MRel
  rw [o (m + 2) (by omega) (by omega), o (m + 3) (by omega) (by omega), o (m + 4) (by omega) (by omega), o (m + 5) (by omega) (by omega), o (m + 6) (by omega) (by omega), o (m + 7) (by omega) (by omega), o9]
  exact ⟨ht, hc, r, ⟨d1, d2, d3⟩, e, f, g, i, j⟩
theorem MRel.tri (h : MRel M m S) (hQ : Sh Q) : MRel (xro M (m + 4) Q) m S := h.oth (fun k q1 q2 => xro_n q2) (by rw [xro_n (by omega)]; exact h.2.2.2.1.2.1) (by rw [xro_s]; exact hQ)
theorem rEmK_0 : rEmK R 0 = R := by funext i; unfold rEmK; rw [if_neg (by omega)]
theorem rEmK_S {k : Nat} : upR (rEmK R k) (23 + k) 0 = rEmK R (k + 1) := by
  funext i; unfold upR rEmK
  by_cases e : i = 23 + k
  · rw [if_pos e, if_pos (by omega)]
  · rw [if_neg e]
    by_cases c : 23 ≤ i ∧ i < 23 + k
    · rw [if_pos c, if_pos (by omega)]
    · rw [if_neg c, if_neg (by omega)]
theorem Sh.emp (h : Sh R) : Sh (rEmp R) := fun i hi => by unfold rEmp; rw [if_neg (by omega)]; exact h i hi
theorem MRel.pop (h : MRel M m S) (h1 : 1 ≤ S.2.2.2.1) (o : ∀ k, k ≠ m → k ≠ m + 3 → M' k = M k) (o2 : M' m 2 = M m 2) (o9 : M' m 9 = nI (S.2.2.2.1 - 1)) (hR : M' (m + 3) = S.2.2.2.2.1 0) : MRel M' m (sPop S) := by
  obtain ⟨⟨a1, a2⟩, b, r, ⟨d1, d2, d3⟩, ⟨e1, e2⟩, f, g, i, j⟩ := h
  unfold MRel
  rw [o (m + 1) (by omega) (by omega), o (m + 2) (by omega) (by omega), o (m + 4) (by omega) (by omega), o (m + 5) (by omega) (by omega), o (m + 6) (by omega) (by omega), o (m + 7) (by omega) (by omega), o2, o9]
  refine ⟨⟨a1, a2⟩, b, hR, ⟨(f 0 (by omega)).1, d2, d3⟩, ⟨rfl, by show S.2.2.2.1 - 1 ≤ 14; omega⟩, fun z hz => ?_, g, i, j⟩
  have hz' : z < S.2.2.2.1 - 1 := hz
  obtain ⟨f1, f2⟩ := f (z + 1) (by omega)
  refine ⟨f1, fun y hy => ?_⟩
  show M (m + 5) (191 * (S.2.2.2.1 - 1 - 1 - z) + y) = S.2.2.2.2.1 (z + 1) y
  rw [← f2 y hy, show S.2.2.2.1 - 1 - 1 - z = S.2.2.2.1 - 1 - (z + 1) by omega]
end P57
section C57
variable {E : xEnv} {l : Launch} {x : Bool} {n : Nat} {K : xKnd} {G : xRef} {M : xMem} {L : xLng} {a m T B : Nat} {S : xSp}
theorem c_X6_begin (h : rM n K G m) (hc : MRel M m S) : Con E l Y_X6_begin [.ref m] (x, n, K, G, M, L) (xR none (x, n, K, G, xro M (m + 4) S.2.2.1, L)) xF := by
  obtain ⟨h0, -, -, -, -, g6, h3, g7, h4, -⟩ := h
  refine Con.mk 0 mp_X6_begin rfl (ls := [some (.ref m)]) rfl (Nat.le_of_ble_eq_true rfl) ?_
  refine V_ald0 dX6_begin_0 ?_
  refine V_getR fd_X6_16 dX6_begin_1 (by assumption) (by assumption) rfl ?_
  refine V_iconst (v := 0) dX6_begin_4 (by decide) ?_
  refine V_ald0 dX6_begin_5 ?_
  refine V_getR fd_X6_19 dX6_begin_6 (by assumption) (by assumption) rfl ?_
  refine V_iconst (v := 0) dX6_begin_9 (by decide) ?_
  refine V_sipush (v := 191) dX6_begin_10 (by decide) ?_
  refine V_cs5U lk_X6_49 cc_X6_copy dX6_begin_13 (c_X6_copy h3 h4 (s := 0) (d := 0) (m := 191) (by decide) (by decide) (Or.inl (by omega))) ft_X6_begin_X6_copy rfl rfl (Nat.le_of_ble_eq_true rfl) ?_
  exact V_vret rfl dX6_begin_16 (by decide) (by decide) ⟨rfl, by rw [hc.2.2.1, cpR_row hc.2.2.2.1.2.2 hc.2.2.2.1.1]⟩
theorem c_X6_fateOf (h : rM n K G m) (hc : MRel M m S) (hw : WFr S.2.2.1 T B) (t z : Int32) : Con E l Y_X6_fateOf [.ref m, .int t, .int z] (x, n, K, G, M, L) (xR (some (.int (nI (rDrF S.2.2.1 t z)))) (x, n, K, G, xro M (m + 4) (rDr S.2.2.1 t z), L)) xF := by
  have hm := h
  obtain ⟨h0, -, -, -, -, g6, h3, g7, h4, -⟩ := h
  refine Con.mk 0 mp_X6_fateOf rfl (ls := [some (.ref m), some (.int t), some (.int z)]) rfl (Nat.le_of_ble_eq_true rfl) ?_
  refine V_ald0 dX6_fateOf_0 ?_
  refine V_cv0U lk_X6_194 cc_X6_begin dX6_fateOf_1 (by assumption) (c_X6_begin hm hc) ft_X6_fateOf_X6_begin rfl rfl (Nat.le_of_ble_eq_true rfl) ?_
  refine V_ald0 dX6_fateOf_4 ?_
  refine V_getR fd_X6_19 dX6_fateOf_5 (by assumption) (by assumption) rfl ?_
  refine V_ild1 dX6_fateOf_8 ?_
  refine V_ild2 dX6_fateOf_9 ?_
  refine V_cs3R lk_X6_117 cc_X6_goDrop dX6_fateOf_10 (c_X6_goDrop h4 (by rw [xro_s]; exact hw) t z) ft_X6_fateOf_X6_goDrop rfl rfl (Nat.le_of_ble_eq_true rfl) ?_
  exact V_iret rfl dX6_fateOf_13 (by decide) (by decide) ⟨by rw [xro_s], by rw [xro_s, xro_ro]⟩
theorem c_X6_wouldBe (h : rM n K G m) (hc : MRel M m S) (hw : WFr S.2.2.1 T B) (t z : Int32) : Con E l Y_X6_wouldBe [.ref m, .int t, .int z] (x, n, K, G, M, L) (xN (kdFall t z) (nI (rDrF S.2.2.1 t z)) S m x n K G M L) xF := by
  have hm := h
  obtain ⟨h0, -, -, -, -, g6, h3, -⟩ := h
  have kc : kdFall t z = 0 ∨ kdFall t z = 1 := by unfold kdFall; split; exact Or.inl rfl; exact Or.inr rfl
  refine Con.mk 0 mp_X6_wouldBe rfl (ls := [some (.ref m), some (.int t), some (.int z)]) rfl (Nat.le_of_ble_eq_true rfl) ?_
  rcases kc with c | c
  · refine V_ald0 dX6_wouldBe_0 ?_
    refine V_ild1 dX6_wouldBe_1 ?_
    refine V_ild2 dX6_wouldBe_2 ?_
    refine V_cs2R lk_X6_177 cc_X6_isDrop dX6_wouldBe_3 (c_X6_isDrop t z) ft_X6_wouldBe_X6_isDrop rfl rfl (Nat.le_of_ble_eq_true rfl) ?_
    refine V_if_eq (tgt := 13) dX6_wouldBe_6 (by decide) (fun h6 => ?_) (fun h6 => ?_)
    · exact absurd (bIt c) (by rw [h6]; decide)
    · refine V_iconst (v := 0) dX6_wouldBe_9 (by decide) ?_
      refine V_goto (tgt := 14) dX6_wouldBe_10 (by decide) ?_
      refine V_cv1R lk_X6_93 cc_X6_refused dX6_wouldBe_14 (by assumption) (c_X6_refused h0 0) ft_X6_wouldBe_X6_refused rfl rfl (Nat.le_of_ble_eq_true rfl) ?_
      refine V_if_eq (tgt := 24) dX6_wouldBe_17 (by decide) (fun h17 => ?_) (fun h17 => ?_)
      · refine V_ald0 dX6_wouldBe_24 ?_
        refine V_ild1 dX6_wouldBe_25 ?_
        refine V_ild2 dX6_wouldBe_26 ?_
        refine V_cv2R lk_X6_197 cc_X6_fateOf dX6_wouldBe_27 (by assumption) (c_X6_fateOf hm (hc.ref 0) hw t z) ft_X6_wouldBe_X6_fateOf rfl rfl (Nat.le_of_ble_eq_true rfl) ?_
        exact V_iret rfl dX6_wouldBe_30 (by decide) (by decide) ⟨_, _, rfl, fun _ => rfl, rfl, (hc.ref 0).tri (hc.2.2.2.1.1.dr hw t z), by rw [xro_n (by omega), xup_s, c]; rfl, (Fm.up (by omega)).trans (Fm.ro (by omega))⟩
      · exact absurd (by decide) h17
  · refine V_ald0 dX6_wouldBe_0 ?_
    refine V_ild1 dX6_wouldBe_1 ?_
    refine V_ild2 dX6_wouldBe_2 ?_
    refine V_cs2R lk_X6_177 cc_X6_isDrop dX6_wouldBe_3 (c_X6_isDrop t z) ft_X6_wouldBe_X6_isDrop rfl rfl (Nat.le_of_ble_eq_true rfl) ?_
    refine V_if_eq (tgt := 13) dX6_wouldBe_6 (by decide) (fun h6 => ?_) (fun h6 => ?_)
    · refine V_iconst (v := 1) dX6_wouldBe_13 (by decide) ?_
      refine V_cv1R lk_X6_93 cc_X6_refused dX6_wouldBe_14 (by assumption) (c_X6_refused h0 1) ft_X6_wouldBe_X6_refused rfl rfl (Nat.le_of_ble_eq_true rfl) ?_
      refine V_if_eq (tgt := 24) dX6_wouldBe_17 (by decide) (fun h17 => ?_) (fun h17 => ?_)
      · exact absurd h17 (by decide)
      · refine V_iconst (v := 0) dX6_wouldBe_20 (by decide) ?_
        refine V_goto (tgt := 30) dX6_wouldBe_21 (by decide) ?_
        exact V_iret rfl dX6_wouldBe_30 (by decide) (by decide) (xN_b hc c _)
    · exact absurd (bIf (by omega)) h6
theorem c_X6_leastSize (h : rM n K G m) (hc : MRel M m S) (hw : WFr S.2.2.1 T B) (t : Int32) : Con E l Y_X6_leastSize [.ref m, .int t] (x, n, K, G, M, L) (xN (kdO t 0 99) (aLst (fun i => decide (rDrF S.2.2.1 t (nI i) = 0)) 60 1) S m x n K G M L) xF := by
  have hm := h
  obtain ⟨h0, -, -, -, -, g6, h3, -⟩ := h
  refine Con.mk 1 mp_X6_leastSize rfl (ls := [some (.ref m), some (.int t), none]) rfl (Nat.le_of_ble_eq_true rfl) ?_
  by_cases c : t < 0 ∨ 99 < t
  · refine V_ald0 dX6_leastSize_0 ?_
    refine V_ild1 dX6_leastSize_1 ?_
    refine V_i2l dX6_leastSize_2 ?_
    refine V_lconst (v := 0) dX6_leastSize_3 (by decide) ?_
    refine V_ldc2 dX6_leastSize_4 mk_X6_173 ?_
    refine V_cs3R lk_X6_86 cc_X6_in dX6_leastSize_7 (c_X6_inI t 0 99) ft_X6_leastSize_X6_in rfl rfl (Nat.le_of_ble_eq_true rfl) ?_
    refine V_if_eq (tgt := 17) dX6_leastSize_10 (by decide) (fun h10 => ?_) (fun h10 => ?_)
    · refine V_iconst (v := 1) dX6_leastSize_17 (by decide) ?_
      refine V_cv1R lk_X6_93 cc_X6_refused dX6_leastSize_18 (by assumption) (c_X6_refused h0 1) ft_X6_leastSize_X6_refused rfl rfl (Nat.le_of_ble_eq_true rfl) ?_
      refine V_if_eq (tgt := 26) dX6_leastSize_21 (by decide) (fun h21 => ?_) (fun h21 => ?_)
      · exact absurd h21 (by decide)
      · refine V_iconst (v := 0) dX6_leastSize_24 (by decide) ?_
        exact V_iret rfl dX6_leastSize_25 (by decide) (by decide) (xN_b hc (kdO_1 c) _)
    · exact absurd (bIf (not_not_intro c)) h10
  · generalize hA : aLst (fun i => decide (rDrF S.2.2.1 t (nI i) = 0)) 60 1 = A
    have leaf : ∀ (Q : xRow) (y : Int32), Sh Q → y = A → xN (kdO t 0 99) A S m x n K G M L (some (.int y)) (x, n, K, G, xro (xup M m 0 0) (m + 4) Q, L) := fun Q y s e =>
      ⟨_, _, rfl, fun _ => e, rfl, (hc.ref 0).tri s, by rw [xro_n (by omega), xup_s, kdO_0 c]; rfl, (Fm.up (by omega)).trans (Fm.ro (by omega))⟩
    have loop : ∀ (d i : Nat) (Q : xRow), d + i = 61 → 1 ≤ i → Sh Q → A = aLst (fun i => decide (rDrF S.2.2.1 t (nI i) = 0)) d i →
        V E l Y_X6_leastSize (xQm E Y_X6_leastSize (xN (kdO t 0 99) A S m x n K G M L) xF) (x, n, K, G, xro (xup M m 0 0) (m + 4) Q, L) (0, 0) 28 [some (.ref m), some (.int t), some (.int (nI i))] [] := by
      intro d
      induction d with
      | zero =>
        intro i Q hi i1 sQ he
        refine V_ild2 dX6_leastSize_28 ?_
        refine V_bipush (v := 60) dX6_leastSize_29 (by decide) ?_
        refine V_icmp_gt (tgt := 51) dX6_leastSize_31 (by decide) (fun h31 => ?_) (fun h31 => ?_)
        · refine V_bipush (v := (-9)) dX6_leastSize_51 (by decide) ?_
          exact V_iret rfl dX6_leastSize_53 (by decide) (by decide) (leaf Q _ sQ (by rw [he]; rfl))
        · exact absurd (nI_lt (a := 60) (by omega) (by omega)) h31
      | succ d ih =>
        intro i Q hi i1 sQ he
        have f4 : rDrF S.2.2.1 t (nI i) < 4 := rFt_lt
        have z9 : nI (rDrF S.2.2.1 t (nI i)) = 0 ↔ rDrF S.2.2.1 t (nI i) = 0 := nI_eq (b := 0) (by omega) (by decide)
        have sD := hc.2.2.2.1.1.dr hw t (nI i)
        refine V_ild2 dX6_leastSize_28 ?_
        refine V_bipush (v := 60) dX6_leastSize_29 (by decide) ?_
        refine V_icmp_gt (tgt := 51) dX6_leastSize_31 (by decide) (fun h31 => ?_) (fun h31 => ?_)
        · exact absurd h31 (nI_nlt (a := 60) (by omega) (by omega))
        · refine V_ald0 dX6_leastSize_34 ?_
          refine V_ild1 dX6_leastSize_35 ?_
          refine V_ild2 dX6_leastSize_36 ?_
          refine V_cv2R lk_X6_197 cc_X6_fateOf dX6_leastSize_37 (by assumption) (c_X6_fateOf hm ((hc.ref 0).tri sQ) hw t (nI i)) ft_X6_leastSize_X6_fateOf rfl rfl (Nat.le_of_ble_eq_true rfl) ?_
          rw [xro_ro]
          refine V_if_ne (tgt := 45) dX6_leastSize_40 (by decide) (fun h40 => ?_) (fun h40 => ?_)
          · refine V_inc2 dX6_leastSize_45 rfl (nI_1 i) ?_
            refine V_goto (tgt := 28) dX6_leastSize_48 (by decide) ?_
            exact ih (i + 1) _ (by omega) (by omega) sD (by rw [he, aLst_no]; intro q; exact h40 (z9.mpr (of_decide_eq_true q)))
          · refine V_ild2 dX6_leastSize_43 ?_
            exact V_iret rfl dX6_leastSize_44 (by decide) (by decide) (leaf _ _ sD (by rw [he]; unfold aLst; rw [if_pos (decide_eq_true (z9.mp h40))]))
    refine V_ald0 dX6_leastSize_0 ?_
    refine V_ild1 dX6_leastSize_1 ?_
    refine V_i2l dX6_leastSize_2 ?_
    refine V_lconst (v := 0) dX6_leastSize_3 (by decide) ?_
    refine V_ldc2 dX6_leastSize_4 mk_X6_173 ?_
    refine V_cs3R lk_X6_86 cc_X6_in dX6_leastSize_7 (c_X6_inI t 0 99) ft_X6_leastSize_X6_in rfl rfl (Nat.le_of_ble_eq_true rfl) ?_
    refine V_if_eq (tgt := 17) dX6_leastSize_10 (by decide) (fun h10 => ?_) (fun h10 => ?_)
    · exact absurd (bIt c) (by rw [h10]; decide)
    · refine V_iconst (v := 0) dX6_leastSize_13 (by decide) ?_
      refine V_goto (tgt := 18) dX6_leastSize_14 (by decide) ?_
      refine V_cv1R lk_X6_93 cc_X6_refused dX6_leastSize_18 (by assumption) (c_X6_refused h0 0) ft_X6_leastSize_X6_refused rfl rfl (Nat.le_of_ble_eq_true rfl) ?_
      refine V_if_eq (tgt := 26) dX6_leastSize_21 (by decide) (fun h21 => ?_) (fun h21 => ?_)
      · refine V_iconst (v := 1) dX6_leastSize_26 (by decide) ?_
        refine V_ist2 dX6_leastSize_27 rfl (by decide) ?_
        have := loop 60 1 (M (m + 4)) (by omega) (by omega) hc.2.2.2.1.2.2 hA.symm
        rw [show xro (xup M m 0 0) (m + 4) (M (m + 4)) = xup M m 0 0 from by
          have e : xup M m 0 0 (m + 4) = M (m + 4) := by funext z; exact xup_k (by omega)
          rw [← e]; exact xro_id] at this
        exact this
      · exact absurd (by decide) h21
theorem c_X6_undo (h : rM n K G m) (hc : MRel M m S) : Con E l Y_X6_undo [.ref m] (x, n, K, G, M, L)
    (xN (if S.2.2.2.1 = 0 then 1 else 0) (nI (S.2.2.2.1 - 1)) (if (if S.2.2.2.1 = 0 then 1 else 0) = 0 then sPop S else S) m x n K G M L) xF := by
  obtain ⟨h0, -, -, -, -, g6, h3, -, -, g8, h5, -⟩ := h
  obtain ⟨a9, a14⟩ := hc.2.2.2.2.1
  have e9 : ∀ v, xup M m 0 v m 9 = nI S.2.2.2.1 := fun v => by rw [xup_i (by decide)]; exact a9
  refine Con.mk 0 mp_X6_undo rfl (ls := [some (.ref m)]) rfl (Nat.le_of_ble_eq_true rfl) ?_
  by_cases c : S.2.2.2.1 = 0
  · rw [if_pos c, if_neg (by decide)]
    refine V_ald0 dX6_undo_0 ?_
    refine V_ald0 dX6_undo_1 ?_
    refine V_getI fd_X6_46 dX6_undo_2 (by assumption) rfl ?_
    refine V_if_ne (tgt := 12) dX6_undo_5 (by decide) (fun h5_1 => ?_) (fun h5_1 => ?_)
    · exact absurd (a9.trans (by rw [c]; rfl)) h5_1
    · refine V_iconst (v := 1) dX6_undo_8 (by decide) ?_
      refine V_goto (tgt := 13) dX6_undo_9 (by decide) ?_
      refine V_cv1R lk_X6_93 cc_X6_refused dX6_undo_13 (by assumption) (c_X6_refused h0 1) ft_X6_undo_X6_refused rfl rfl (Nat.le_of_ble_eq_true rfl) ?_
      refine V_if_eq (tgt := 21) dX6_undo_16 (by decide) (fun h16 => ?_) (fun h16 => ?_)
      · exact absurd h16 (by decide)
      · refine V_iconst (v := 0) dX6_undo_19 (by decide) ?_
        exact V_iret rfl dX6_undo_20 (by decide) (by decide) (xN_b hc rfl _)
  · rw [if_neg c, if_pos rfl]
    have ei : (191 : Int32) * nI (S.2.2.2.1 - 1) = nI (191 * (S.2.2.2.1 - 1)) := pk_mul 191 _
    have d0 := hc.2.2.2.2.2.1 0 (by omega)
    have rowE : cpR (M (m + 3)) 0 (M (m + 5)) (191 * (S.2.2.2.1 - 1)) 191 = S.2.2.2.2.1 0 := by
      funext i
      by_cases q : i < 191
      · have e := cpR_in (R := M (m + 3)) (d := 0) (s := 191 * (S.2.2.2.1 - 1)) (k := 191) (i := i) (F := M (m + 5)) q
        rw [Nat.zero_add] at e
        rw [e]
        have := d0.2 i q
        rwa [Nat.sub_zero] at this
      · rw [cpR_out (by omega), hc.2.2.1, hc.2.2.2.1.1 i (by omega), d0.1 i (by omega)]
    refine V_ald0 dX6_undo_0 ?_
    refine V_ald0 dX6_undo_1 ?_
    refine V_getI fd_X6_46 dX6_undo_2 (by assumption) rfl ?_
    refine V_if_ne (tgt := 12) dX6_undo_5 (by decide) (fun h5_1 => ?_) (fun h5_1 => ?_)
    · refine V_iconst (v := 0) dX6_undo_12 (by decide) ?_
      refine V_cv1R lk_X6_93 cc_X6_refused dX6_undo_13 (by assumption) (c_X6_refused h0 0) ft_X6_undo_X6_refused rfl rfl (Nat.le_of_ble_eq_true rfl) ?_
      refine V_if_eq (tgt := 21) dX6_undo_16 (by decide) (fun h16 => ?_) (fun h16 => ?_)
      · refine V_ald0 dX6_undo_21 ?_
        refine V_dup dX6_undo_22 rfl ?_
        refine V_getI fd_X6_46 dX6_undo_23 (by assumption) rfl ?_
        refine V_iconst (v := 1) dX6_undo_26 (by decide) ?_
        refine V_isub dX6_undo_27 ?_
        rw [e9, show nI S.2.2.2.1 - 1 = nI (S.2.2.2.1 - 1) from pkSub (b := 1) (by omega)]
        refine V_putI fw_X6_46 dX6_undo_28 (by assumption) rfl ?_
        refine V_ald0 dX6_undo_31 ?_
        refine V_getR fd_X6_22 dX6_undo_32 (by assumption) (by assumption) rfl ?_
        refine V_sipush (v := 191) dX6_undo_35 (by decide) ?_
        refine V_ald0 dX6_undo_38 ?_
        refine V_getI fd_X6_46 dX6_undo_39 (by assumption) rfl ?_
        rw [xup_s]
        refine V_imul dX6_undo_42 ?_
        rw [ei]
        refine V_ald0 dX6_undo_43 ?_
        refine V_getR fd_X6_16 dX6_undo_44 (by assumption) (by assumption) rfl ?_
        refine V_iconst (v := 0) dX6_undo_47 (by decide) ?_
        refine V_sipush (v := 191) dX6_undo_48 (by decide) ?_
        refine V_cs5U lk_X6_49 cc_X6_copy dX6_undo_51 (c_X6_copy h5 h3 (s := 191 * (S.2.2.2.1 - 1)) (d := 0) (m := 191) (by omega) (by decide) (Or.inl (by omega))) ft_X6_undo_X6_copy rfl rfl (Nat.le_of_ble_eq_true rfl) ?_
        rw [show xup (xup M m 0 0) m 9 (nI (S.2.2.2.1 - 1)) (m + 3) = M (m + 3) from by funext z; rw [xup_k (by omega), xup_k (by omega)], show xup (xup M m 0 0) m 9 (nI (S.2.2.2.1 - 1)) (m + 5) = M (m + 5) from by funext z; rw [xup_k (by omega), xup_k (by omega)], rowE]
        refine V_ald0 dX6_undo_54 ?_
        refine V_getI fd_X6_46 dX6_undo_55 (by assumption) rfl ?_
        exact V_iret rfl dX6_undo_58 (by decide) (by decide) ⟨_, _, rfl, fun _ => by rw [xro_n (by omega), xup_s], rfl, hc.pop (by omega) (fun k q1 q2 => by rw [xro_n q2]; funext z; rw [xup_k q1, xup_k q1]) (by rw [xro_n (by omega), xup_i (by decide), xup_i (by decide)]) (by rw [xro_n (by omega), xup_s]) (by rw [xro_s]), by rw [xro_n (by omega), xup_i (by decide), xup_s]; rfl, (Fm.up (by omega)).trans ((Fm.up (by omega)).trans (Fm.ro (by omega)))⟩
      · exact absurd (by decide) h16
    · exact absurd ((nI_eq (b := 0) (by omega) (by decide)).mp (a9.symm.trans h5_1)) c
theorem c_X6_clearText (h : rM n K G m) (hc : MRel M m S) : Con E l Y_X6_clearText [.ref m] (x, n, K, G, M, L) (xN 0 (nI S.1) (sWipe S) m x n K G M L) xF := by
  have h0 := h.1
  refine Con.mk 1 mp_X6_clearText rfl (ls := [some (.ref m), none]) rfl (Nat.le_of_ble_eq_true rfl) ?_
  refine V_ald0 dX6_clearText_0 ?_
  refine V_iconst (v := 0) dX6_clearText_1 (by decide) ?_
  refine V_putI fw_X6_36 dX6_clearText_2 (by assumption) rfl ?_
  refine V_ald0 dX6_clearText_5 ?_
  refine V_getI fd_X6_90 dX6_clearText_6 (by assumption) rfl ?_
  refine V_ist1 dX6_clearText_9 rfl (by decide) ?_
  refine V_ald0 dX6_clearText_10 ?_
  refine V_iconst (v := 0) dX6_clearText_11 (by decide) ?_
  refine V_putI fw_X6_90 dX6_clearText_12 (by assumption) rfl ?_
  refine V_ild1 dX6_clearText_15 ?_
  exact V_iret rfl dX6_clearText_16 (by decide) (by decide) ⟨_, _, rfl, fun _ => by rw [xup_i (by decide)]; exact hc.1.1, rfl, hc.txt (fun k q1 q2 => by funext z; rw [xup_k q1, xup_k q1]) (by rw [xup_i (by decide), xup_i (by decide)]) ⟨by rw [xup_s]; rfl, by omega⟩ (fun i hi => absurd hi (Nat.not_lt_zero _)), by rw [xup_i (by decide), xup_s]; rfl, (Fm.up (by omega)).trans (Fm.up (by omega))⟩
end C57

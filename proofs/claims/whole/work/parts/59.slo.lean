/-! ===== the reference: longest, slots, borders ===== -/
section P59
variable {M M' : xMem} {R R' Q : xRow} {T B c m j : Nat} {S : xSp}
theorem MRel.keep (h : MRel M m S) (hj : j < 2) : MRel (xup (xro M (m + 6) (cpR (M (m + 6)) (191 * j) (M (m + 3)) 0 191)) (m + 7) j 1) m (sKeep S j) := by
  obtain ⟨⟨a1, a2⟩, b, r, ⟨d1, d2, d3⟩, e, f, g, i, k9⟩ := h
  generalize hM : xup (xro M (m + 6) (cpR (M (m + 6)) (191 * j) (M (m + 3)) 0 191)) (m + 7) j 1 = M'
  have o : ∀ k, k ≠ m + 6 → k ≠ m + 7 → M' k = M k := fun k q1 q2 => by rw [← hM]; funext z; rw [xup_k q2, xro_n q1]
  have x6 : M' (m + 6) = cpR (M (m + 6)) (191 * j) (M (m + 3)) 0 191 := by rw [← hM]; funext z; rw [xup_k (by omega), xro_s]
  have x7 : ∀ z, M' (m + 7) z = if z = j then 1 else M (m + 7) z := fun z => by
    rw [← hM]
    by_cases q : z = j
    · rw [if_pos q, q, xup_s]
    · rw [if_neg q, xup_i q, xro_n (by omega)]
  unfold MRel
  rw [o m (by omega) (by omega), o (m + 1) (by omega) (by omega), o (m + 2) (by omega) (by omega), o (m + 3) (by omega) (by omega), o (m + 4) (by omega) (by omega), o (m + 5) (by omega) (by omega), x6]
  refine ⟨⟨a1, a2⟩, b, r, ⟨d1, d2, d3⟩, e, f, ?_, ?_, fun z hz hf => ?_⟩
  · show _ = bB (if 0 = j then true else S.2.2.2.2.2.1 0)
    rw [x7]
    by_cases q : 0 = j
    · rw [if_pos q, if_pos q]; rfl
    · rw [if_neg q, if_neg q]; exact g
  · show _ = bB (if 1 = j then true else S.2.2.2.2.2.1 1)
    rw [x7]
    by_cases q : 1 = j
    · rw [if_pos q, if_pos q]; rfl
    · rw [if_neg q, if_neg q]; exact i
  · have hf' : (if z = j then true else S.2.2.2.2.2.1 z) = true := hf
    show Sh (if z = j then S.2.2.1 else S.2.2.2.2.2.2 z) ∧ ∀ i, i < 191 → cpR (M (m + 6)) (191 * j) (M (m + 3)) 0 191 (191 * z + i) = (if z = j then S.2.2.1 else S.2.2.2.2.2.2 z) i
    by_cases q : z = j
    · rw [if_pos q]
      exact ⟨d1, fun i hi => by rw [q, cpR_in hi, Nat.zero_add, r]⟩
    · rw [if_neg q] at hf' ⊢
      exact ⟨(k9 z hz hf').1, fun i hi => by rw [cpR_out (by omega)]; exact (k9 z hz hf').2 i hi⟩
theorem MRel.slot (h : MRel M m S) (hj : j < 2) (hf : S.2.2.2.2.2.1 j = true) : cpR (M (m + 3)) 0 (M (m + 6)) (191 * j) 191 = S.2.2.2.2.2.2 j := by
  have d0 := h.2.2.2.2.2.2.2.2 j hj hf
  funext i
  by_cases q : i < 191
  · have e := cpR_in (R := M (m + 3)) (d := 0) (s := 191 * j) (k := 191) (i := i) (F := M (m + 6)) q
    rw [Nat.zero_add] at e
    rw [e]; exact d0.2 i q
  · rw [cpR_out (by omega), h.2.2.1, h.2.2.2.1.1 i (by omega), d0.1 i (by omega)]
theorem MRel.back (h : MRel M m S) (hj : j < 2) (hf : S.2.2.2.2.2.1 j = true) : MRel (xup (xro M (m + 3) (S.2.2.2.2.2.2 j)) m 9 0) m (sBack S j) := by
  obtain ⟨⟨a1, a2⟩, b, r, ⟨d1, d2, d3⟩, e, f, g, i, k9⟩ := h
  generalize hM : xup (xro M (m + 3) (S.2.2.2.2.2.2 j)) m 9 0 = M'
  have o : ∀ k, k ≠ m → k ≠ m + 3 → M' k = M k := fun k q1 q2 => by rw [← hM]; funext z; rw [xup_k q1, xro_n q2]
  have x3 : M' (m + 3) = S.2.2.2.2.2.2 j := by rw [← hM]; funext z; rw [xup_k (by omega), xro_s]
  have x2 : M' m 2 = M m 2 := by rw [← hM, xup_i (by decide), xro_n (by omega)]
  have x9 : M' m 9 = 0 := by rw [← hM, xup_s]
  unfold MRel
  rw [o (m + 1) (by omega) (by omega), o (m + 2) (by omega) (by omega), o (m + 4) (by omega) (by omega), o (m + 5) (by omega) (by omega), o (m + 6) (by omega) (by omega), o (m + 7) (by omega) (by omega), x2, x9]
  exact ⟨⟨a1, a2⟩, b, x3, ⟨(k9 j hj hf).1, d2, d3⟩, ⟨rfl, Nat.zero_le _⟩, fun z hz => absurd hz (Nat.not_lt_zero _), g, i, k9⟩
end P59
section C59
variable {E : xEnv} {l : Launch} {x : Bool} {n : Nat} {K : xKnd} {G : xRef} {M : xMem} {L : xLng} {a m T B : Nat} {S : xSp}
theorem c_X6_longest (h : rM n K G m) (hc : MRel M m S) (hw : WFr S.2.2.1 T B) (v : Int32) : Con E l Y_X6_longest [.ref m, .int v] (x, n, K, G, M, L) (xN (kdO v 0 3) (aLong S.2.2.1 (S.2.2.1 47).toNatClampNeg v) S m x n K G M L) xF := by
  obtain ⟨h0, -, -, -, -, g6, h3, -⟩ := h
  have hr := hc.r0
  obtain ⟨l60, e47⟩ := hw.len
  have el : (S.2.2.1 47).toNatClampNeg = xLf S.2.2.1 := rfl
  rw [el]
  generalize xLf S.2.2.1 = lf at *
  have eA : aLong S.2.2.1 lf v = (kLong (fun i => S.2.2.1 (48 + i)) v lf).1 := by rw [kLong_n _ _ _ (by omega)]; rfl
  rw [eA]
  refine Con.mk 3 mp_X6_longest rfl (ls := [some (.ref m), some (.int v), none, none, none]) rfl (Nat.le_of_ble_eq_true rfl) ?_
  by_cases c : v < 0 ∨ 3 < v
  · refine V_ald0 dX6_longest_0 ?_
    refine V_ild1 dX6_longest_1 ?_
    refine V_i2l dX6_longest_2 ?_
    refine V_lconst (v := 0) dX6_longest_3 (by decide) ?_
    refine V_ldc2 dX6_longest_4 mk_X6_152 ?_
    refine V_cs3R lk_X6_86 cc_X6_in dX6_longest_7 (c_X6_inI v 0 3) ft_X6_longest_X6_in rfl rfl (Nat.le_of_ble_eq_true rfl) ?_
    refine V_if_eq (tgt := 17) dX6_longest_10 (by decide) (fun h10 => ?_) (fun h10 => ?_)
    · refine V_iconst (v := 1) dX6_longest_17 (by decide) ?_
      refine V_cv1R lk_X6_93 cc_X6_refused dX6_longest_18 (by assumption) (c_X6_refused h0 1) ft_X6_longest_X6_refused rfl rfl (Nat.le_of_ble_eq_true rfl) ?_
      refine V_if_eq (tgt := 26) dX6_longest_21 (by decide) (fun h21 => ?_) (fun h21 => ?_)
      · exact absurd h21 (by decide)
      · refine V_iconst (v := 0) dX6_longest_24 (by decide) ?_
        exact V_iret rfl dX6_longest_25 (by decide) (by decide) (xN_b hc (kdO_1 c) _)
    · exact absurd (bIf (not_not_intro c)) h10
  · have loop : ∀ (d i : Nat), d + i = lf →
        V E l Y_X6_longest (xQm E Y_X6_longest (xN (kdO v 0 3) (kLong (fun i => S.2.2.1 (48 + i)) v lf).1 S m x n K G M L) xF) (x, n, K, G, xup M m 0 0, L) (0, 0) 33 [some (.ref m), some (.int v), some (.int (kLong (fun i => S.2.2.1 (48 + i)) v i).1), some (.int (kLong (fun i => S.2.2.1 (48 + i)) v i).2), some (.int (nI i))] [] := by
      intro d
      induction d with
      | zero =>
        intro i hi
        have e : i = lf := by omega
        subst e
        refine V_ild4 dX6_longest_33 ?_
        refine V_ald0 dX6_longest_35 ?_
        refine V_getR fd_X6_16 dX6_longest_36 (by assumption) (by assumption) rfl ?_
        refine V_bipush (v := 47) dX6_longest_39 (by decide) ?_
        refine V_iald (j := 47) dX6_longest_41 (by assumption) (by decide) (by decide) ?_
        refine V_icmp_ge (tgt := 84) dX6_longest_42 (by decide) (fun h42 => ?_) (fun h42 => ?_)
        · refine V_ild2 dX6_longest_84 ?_
          exact V_iret rfl dX6_longest_85 (by decide) (by decide) (xN_g hc (kdO_0 c) rfl)
        · exact absurd (h42) (by rw [hr, e47]; exact nI_nlt (Nat.le_refl i) (by omega))
      | succ d ih =>
        intro i hi
        have key : ∀ (y : Int32), y = (kLong (fun i => S.2.2.1 (48 + i)) v (i + 1)).2 → V E l Y_X6_longest (xQm E Y_X6_longest (xN (kdO v 0 3) (kLong (fun i => S.2.2.1 (48 + i)) v lf).1 S m x n K G M L) xF) (x, n, K, G, xup M m 0 0, L) (0, 0) 66 [some (.ref m), some (.int v), some (.int (kLong (fun i => S.2.2.1 (48 + i)) v i).1), some (.int (kLong (fun i => S.2.2.1 (48 + i)) v i).2), some (.int (nI i))] [.int y] := by
          intro y hy
          have key2 : ∀ (u : Int32), u = (kLong (fun i => S.2.2.1 (48 + i)) v (i + 1)).1 → V E l Y_X6_longest (xQm E Y_X6_longest (xN (kdO v 0 3) (kLong (fun i => S.2.2.1 (48 + i)) v lf).1 S m x n K G M L) xF) (x, n, K, G, xup M m 0 0, L) (0, 0) 77 [some (.ref m), some (.int v), some (.int (kLong (fun i => S.2.2.1 (48 + i)) v i).1), some (.int y), some (.int (nI i))] [.int u] := by
            intro u hu
            subst hy hu
            refine V_ist2 dX6_longest_77 rfl (by decide) ?_
            refine V_inc4 dX6_longest_78 rfl (nI_1 i) ?_
            refine V_goto (tgt := 33) dX6_longest_81 (by decide) ?_
            exact ih (i + 1) (by omega)
          have e1 : (kLong (fun i => S.2.2.1 (48 + i)) v (i + 1)).1 = if (kLong (fun i => S.2.2.1 (48 + i)) v i).1 < y then y else (kLong (fun i => S.2.2.1 (48 + i)) v i).1 := by rw [hy]; rfl
          refine V_ist3 dX6_longest_66 rfl (by decide) ?_
          refine V_ild3 dX6_longest_67 ?_
          refine V_ild2 dX6_longest_68 ?_
          refine V_icmp_le (tgt := 76) dX6_longest_69 (by decide) (fun h69 => ?_) (fun h69 => ?_)
          · refine V_ild2 dX6_longest_76 ?_
            first
            | (refine key2 _ ?_; rw [e1, if_pos h69])
            | (refine key2 _ ?_; rw [e1, if_neg h69])
          · refine V_ild3 dX6_longest_72 ?_
            refine V_goto (tgt := 77) dX6_longest_73 (by decide) ?_
            first
            | (refine key2 _ ?_; rw [e1, if_pos h69])
            | (refine key2 _ ?_; rw [e1, if_neg h69])
        have e2 : (kLong (fun i => S.2.2.1 (48 + i)) v (i + 1)).2 = if S.2.2.1 (48 + i) = v then (kLong (fun i => S.2.2.1 (48 + i)) v i).2 + 1 else 0 := rfl
        refine V_ild4 dX6_longest_33 ?_
        refine V_ald0 dX6_longest_35 ?_
        refine V_getR fd_X6_16 dX6_longest_36 (by assumption) (by assumption) rfl ?_
        refine V_bipush (v := 47) dX6_longest_39 (by decide) ?_
        refine V_iald (j := 47) dX6_longest_41 (by assumption) (by decide) (by decide) ?_
        refine V_icmp_ge (tgt := 84) dX6_longest_42 (by decide) (fun h42 => ?_) (fun h42 => ?_)
        · exact absurd (by rw [hr, e47]; exact nI_lt (by omega) (by omega)) h42
        · refine V_ald0 dX6_longest_45 ?_
          refine V_getR fd_X6_16 dX6_longest_46 (by assumption) (by assumption) rfl ?_
          refine V_bipush (v := 48) dX6_longest_49 (by decide) ?_
          refine V_ild4 dX6_longest_51 ?_
          refine V_iadd dX6_longest_53 ?_
          refine V_iald (j := 48 + i) dX6_longest_54 (by assumption) (nI_add 48 i) (by omega) ?_
          refine V_ild1 dX6_longest_55 ?_
          refine V_icmp_ne (tgt := 65) dX6_longest_56 (by decide) (fun h56 => ?_) (fun h56 => ?_)
          · rw [hr] at h56
            refine V_iconst (v := 0) dX6_longest_65 (by decide) ?_
            first
            | (refine key _ ?_; rw [e2, if_pos h56])
            | (refine key _ ?_; rw [e2, if_neg h56])
          · rw [hr] at h56
            refine V_ild3 dX6_longest_59 ?_
            refine V_iconst (v := 1) dX6_longest_60 (by decide) ?_
            refine V_iadd dX6_longest_61 ?_
            refine V_goto (tgt := 66) dX6_longest_62 (by decide) ?_
            first
            | (refine key _ ?_; rw [e2, if_pos h56])
            | (refine key _ ?_; rw [e2, if_neg h56])
    refine V_ald0 dX6_longest_0 ?_
    refine V_ild1 dX6_longest_1 ?_
    refine V_i2l dX6_longest_2 ?_
    refine V_lconst (v := 0) dX6_longest_3 (by decide) ?_
    refine V_ldc2 dX6_longest_4 mk_X6_152 ?_
    refine V_cs3R lk_X6_86 cc_X6_in dX6_longest_7 (c_X6_inI v 0 3) ft_X6_longest_X6_in rfl rfl (Nat.le_of_ble_eq_true rfl) ?_
    refine V_if_eq (tgt := 17) dX6_longest_10 (by decide) (fun h10 => ?_) (fun h10 => ?_)
    · exact absurd (bIt c) (by rw [h10]; decide)
    · refine V_iconst (v := 0) dX6_longest_13 (by decide) ?_
      refine V_goto (tgt := 18) dX6_longest_14 (by decide) ?_
      refine V_cv1R lk_X6_93 cc_X6_refused dX6_longest_18 (by assumption) (c_X6_refused h0 0) ft_X6_longest_X6_refused rfl rfl (Nat.le_of_ble_eq_true rfl) ?_
      refine V_if_eq (tgt := 26) dX6_longest_21 (by decide) (fun h21 => ?_) (fun h21 => ?_)
      · refine V_iconst (v := 0) dX6_longest_26 (by decide) ?_
        refine V_ist2 dX6_longest_27 rfl (by decide) ?_
        refine V_iconst (v := 0) dX6_longest_28 (by decide) ?_
        refine V_ist3 dX6_longest_29 rfl (by decide) ?_
        refine V_iconst (v := 0) dX6_longest_30 (by decide) ?_
        refine V_ist4 dX6_longest_31 rfl (by decide) ?_
        exact loop lf 0 (by omega)
      · exact absurd (by decide) h21
theorem c_X6_save (h : rM n K G m) (hc : MRel M m S) (w : Int32) : Con E l Y_X6_save [.ref m, .int w] (x, n, K, G, M, L) (xN (kdO w 0 1) (S.2.2.1 0) (if kdO w 0 1 = 0 then sKeep S w.toNatClampNeg else S) m x n K G M L) xF := by
  obtain ⟨h0, -, -, -, -, g6, h3, -, -, -, -, g10, h6, g11, h7⟩ := h
  have hr := hc.r0
  refine Con.mk 0 mp_X6_save rfl (ls := [some (.ref m), some (.int w)]) rfl (Nat.le_of_ble_eq_true rfl) ?_
  by_cases c : w < 0 ∨ 1 < w
  · rw [kdO_1 c, if_neg (by decide)]
    refine V_ald0 dX6_save_0 ?_
    refine V_ild1 dX6_save_1 ?_
    refine V_i2l dX6_save_2 ?_
    refine V_lconst (v := 0) dX6_save_3 (by decide) ?_
    refine V_lconst (v := 1) dX6_save_4 (by decide) ?_
    refine V_cs3R lk_X6_86 cc_X6_in dX6_save_5 (c_X6_inI w 0 1) ft_X6_save_X6_in rfl rfl (Nat.le_of_ble_eq_true rfl) ?_
    refine V_if_eq (tgt := 15) dX6_save_8 (by decide) (fun h8 => ?_) (fun h8 => ?_)
    · refine V_iconst (v := 1) dX6_save_15 (by decide) ?_
      refine V_cv1R lk_X6_93 cc_X6_refused dX6_save_16 (by assumption) (c_X6_refused h0 1) ft_X6_save_X6_refused rfl rfl (Nat.le_of_ble_eq_true rfl) ?_
      refine V_if_eq (tgt := 24) dX6_save_19 (by decide) (fun h19 => ?_) (fun h19 => ?_)
      · exact absurd h19 (by decide)
      · refine V_iconst (v := 0) dX6_save_22 (by decide) ?_
        exact V_iret rfl dX6_save_23 (by decide) (by decide) (xN_b hc rfl _)
    · exact absurd (bIf (not_not_intro c)) h8
  · have c' := c
    rw [not_or] at c'
    obtain ⟨j, hj, ej⟩ := xIdx (N := 1) (by decide) c'.1 c'.2
    have e1 : w.toNatClampNeg = j := by rw [ej, nI_clamp (by omega)]
    have ei : (191 : Int32) * w = nI (191 * j) := by rw [ej]; exact pk_mul 191 j
    rw [kdO_0 c, if_pos rfl, e1]
    have kk := (hc.ref 0).keep (j := j) (by omega)
    refine V_ald0 dX6_save_0 ?_
    refine V_ild1 dX6_save_1 ?_
    refine V_i2l dX6_save_2 ?_
    refine V_lconst (v := 0) dX6_save_3 (by decide) ?_
    refine V_lconst (v := 1) dX6_save_4 (by decide) ?_
    refine V_cs3R lk_X6_86 cc_X6_in dX6_save_5 (c_X6_inI w 0 1) ft_X6_save_X6_in rfl rfl (Nat.le_of_ble_eq_true rfl) ?_
    refine V_if_eq (tgt := 15) dX6_save_8 (by decide) (fun h8 => ?_) (fun h8 => ?_)
    · exact absurd (bIt c) (by rw [h8]; decide)
    · refine V_iconst (v := 0) dX6_save_11 (by decide) ?_
      refine V_goto (tgt := 16) dX6_save_12 (by decide) ?_
      refine V_cv1R lk_X6_93 cc_X6_refused dX6_save_16 (by assumption) (c_X6_refused h0 0) ft_X6_save_X6_refused rfl rfl (Nat.le_of_ble_eq_true rfl) ?_
      refine V_if_eq (tgt := 24) dX6_save_19 (by decide) (fun h19 => ?_) (fun h19 => ?_)
      · refine V_ald0 dX6_save_24 ?_
        refine V_getR fd_X6_16 dX6_save_25 (by assumption) (by assumption) rfl ?_
        refine V_iconst (v := 0) dX6_save_28 (by decide) ?_
        refine V_ald0 dX6_save_29 ?_
        refine V_getR fd_X6_25 dX6_save_30 (by assumption) (by assumption) rfl ?_
        refine V_sipush (v := 191) dX6_save_33 (by decide) ?_
        refine V_ild1 dX6_save_36 ?_
        refine V_imul dX6_save_37 ?_
        rw [ei]
        refine V_sipush (v := 191) dX6_save_38 (by decide) ?_
        refine V_cs5U lk_X6_49 cc_X6_copy dX6_save_41 (c_X6_copy h3 h6 (s := 0) (d := 191 * j) (m := 191) (by decide) (by omega) (Or.inl (by omega))) ft_X6_save_X6_copy rfl rfl (Nat.le_of_ble_eq_true rfl) ?_
        refine V_ald0 dX6_save_44 ?_
        refine V_getR fd_X6_28 dX6_save_45 (by assumption) (by assumption) rfl ?_
        refine V_ild1 dX6_save_48 ?_
        refine V_iconst (v := 1) dX6_save_49 (by decide) ?_
        refine V_bast (j := j) dX6_save_50 (by assumption) ej (by omega) (Or.inr rfl) ?_
        refine V_ald0 dX6_save_51 ?_
        refine V_getR fd_X6_16 dX6_save_52 (by assumption) (by assumption) rfl ?_
        refine V_iconst (v := 0) dX6_save_55 (by decide) ?_
        refine V_iald (j := 0) dX6_save_56 (by assumption) (by decide) (by decide) ?_
        exact V_iret rfl dX6_save_57 (by decide) (by decide) ⟨_, _, rfl, fun _ => by rw [xup_k (by omega), xro_n (by omega), hr], rfl, kk, by rw [xup_k (by omega), xro_n (by omega), xup_s]; rfl, (Fm.up (by omega)).trans ((Fm.ro (by omega)).trans (Fm.up (by omega)))⟩
      · exact absurd (by decide) h19
theorem c_X6_restore (h : rM n K G m) (hc : MRel M m S) (w : Int32) : Con E l Y_X6_restore [.ref m, .int w] (x, n, K, G, M, L) (xN (kdRes S w) (S.2.2.2.2.2.2 w.toNatClampNeg 0) (if kdRes S w = 0 then sBack S w.toNatClampNeg else S) m x n K G M L) xF := by
  obtain ⟨h0, -, -, -, -, g6, h3, -, -, -, -, g10, h6, g11, h7⟩ := h
  refine Con.mk 0 mp_X6_restore rfl (ls := [some (.ref m), some (.int w)]) rfl (Nat.le_of_ble_eq_true rfl) ?_
  by_cases c : w < 0 ∨ 1 < w
  · have kd : kdRes S w = 1 := if_pos c
    rw [if_neg (by omega)]
    refine V_ald0 dX6_restore_0 ?_
    refine V_ild1 dX6_restore_1 ?_
    refine V_i2l dX6_restore_2 ?_
    refine V_lconst (v := 0) dX6_restore_3 (by decide) ?_
    refine V_lconst (v := 1) dX6_restore_4 (by decide) ?_
    refine V_cs3R lk_X6_86 cc_X6_in dX6_restore_5 (c_X6_inI w 0 1) ft_X6_restore_X6_in rfl rfl (Nat.le_of_ble_eq_true rfl) ?_
    refine V_if_ne (tgt := 15) dX6_restore_8 (by decide) (fun h8 => ?_) (fun h8 => ?_)
    · exact absurd (bIf (not_not_intro c)) h8
    · refine V_iconst (v := 1) dX6_restore_11 (by decide) ?_
      refine V_goto (tgt := 29) dX6_restore_12 (by decide) ?_
      refine V_cv1R lk_X6_93 cc_X6_refused dX6_restore_29 (by assumption) (c_X6_refused h0 1) ft_X6_restore_X6_refused rfl rfl (Nat.le_of_ble_eq_true rfl) ?_
      refine V_if_eq (tgt := 37) dX6_restore_32 (by decide) (fun h32 => ?_) (fun h32 => ?_)
      · exact absurd h32 (by decide)
      · refine V_iconst (v := 0) dX6_restore_35 (by decide) ?_
        exact V_iret rfl dX6_restore_36 (by decide) (by decide) (xN_b hc kd _)
  · have c' := c
    rw [not_or] at c'
    obtain ⟨j, hj, ej⟩ := xIdx (N := 1) (by decide) c'.1 c'.2
    have e1 : w.toNatClampNeg = j := by rw [ej, nI_clamp (by omega)]
    have ei : (191 : Int32) * w = nI (191 * j) := by rw [ej]; exact pk_mul 191 j
    have fl : M (m + 7) j = bB (S.2.2.2.2.2.1 j) := by
      have : j = 0 ∨ j = 1 := by omega
      rcases this with rfl | rfl
      · exact hc.2.2.2.2.2.2.1
      · exact hc.2.2.2.2.2.2.2.1
    by_cases hf : S.2.2.2.2.2.1 j = true
    · have kd : kdRes S w = 0 := by unfold kdRes; rw [if_neg c, e1, if_pos hf]
      have b1 : bB (S.2.2.2.2.2.1 j) = 1 := by rw [hf]; rfl
      rw [if_pos kd, e1]
      have kk := (hc.ref 0).back (j := j) (by omega) hf
      refine V_ald0 dX6_restore_0 ?_
      refine V_ild1 dX6_restore_1 ?_
      refine V_i2l dX6_restore_2 ?_
      refine V_lconst (v := 0) dX6_restore_3 (by decide) ?_
      refine V_lconst (v := 1) dX6_restore_4 (by decide) ?_
      refine V_cs3R lk_X6_86 cc_X6_in dX6_restore_5 (c_X6_inI w 0 1) ft_X6_restore_X6_in rfl rfl (Nat.le_of_ble_eq_true rfl) ?_
      refine V_if_ne (tgt := 15) dX6_restore_8 (by decide) (fun h8 => ?_) (fun h8 => ?_)
      · refine V_ald0 dX6_restore_15 ?_
        refine V_getR fd_X6_28 dX6_restore_16 (by assumption) (by assumption) rfl ?_
        refine V_ild1 dX6_restore_19 ?_
        refine V_bald (j := j) dX6_restore_20 (by assumption) ej (by omega) ?_
        refine V_if_eq (tgt := 28) dX6_restore_21 (by decide) (fun h21 => ?_) (fun h21 => ?_)
        · exact absurd (h21.symm.trans (fl.trans b1)) (by decide)
        · refine V_iconst (v := 0) dX6_restore_24 (by decide) ?_
          refine V_goto (tgt := 29) dX6_restore_25 (by decide) ?_
          refine V_cv1R lk_X6_93 cc_X6_refused dX6_restore_29 (by assumption) (c_X6_refused h0 0) ft_X6_restore_X6_refused rfl rfl (Nat.le_of_ble_eq_true rfl) ?_
          refine V_if_eq (tgt := 37) dX6_restore_32 (by decide) (fun h32 => ?_) (fun h32 => ?_)
          · refine V_ald0 dX6_restore_37 ?_
            refine V_getR fd_X6_25 dX6_restore_38 (by assumption) (by assumption) rfl ?_
            refine V_sipush (v := 191) dX6_restore_41 (by decide) ?_
            refine V_ild1 dX6_restore_44 ?_
            refine V_imul dX6_restore_45 ?_
            refine V_ald0 dX6_restore_46 ?_
            refine V_getR fd_X6_16 dX6_restore_47 (by assumption) (by assumption) rfl ?_
            refine V_iconst (v := 0) dX6_restore_50 (by decide) ?_
            rw [ei]
            refine V_sipush (v := 191) dX6_restore_51 (by decide) ?_
            refine V_cs5U lk_X6_49 cc_X6_copy dX6_restore_54 (c_X6_copy h6 h3 (s := 191 * j) (d := 0) (m := 191) (by omega) (by decide) (Or.inl (by omega))) ft_X6_restore_X6_copy rfl rfl (Nat.le_of_ble_eq_true rfl) ?_
            rw [(hc.ref 0).slot (by omega) hf]
            refine V_ald0 dX6_restore_57 ?_
            refine V_iconst (v := 0) dX6_restore_58 (by decide) ?_
            refine V_putI fw_X6_46 dX6_restore_59 (by assumption) rfl ?_
            refine V_ald0 dX6_restore_62 ?_
            refine V_getR fd_X6_16 dX6_restore_63 (by assumption) (by assumption) rfl ?_
            refine V_iconst (v := 0) dX6_restore_66 (by decide) ?_
            refine V_iald (j := 0) dX6_restore_67 (by assumption) (by decide) (by decide) ?_
            exact V_iret rfl dX6_restore_68 (by decide) (by decide) ⟨_, _, rfl, fun _ => by rw [xup_k (by omega), xro_s], rfl, kk, by rw [xup_i (by decide), xro_n (by omega), xup_s, kd]; rfl, (Fm.up (by omega)).trans ((Fm.ro (by omega)).trans (Fm.up (by omega)))⟩
          · exact absurd (by decide) h32
      · exact absurd (bIt c) (by rw [h8]; decide)
    · have kd : kdRes S w = 2 := by unfold kdRes; rw [if_neg c, e1, if_neg hf]
      have b0 : bB (S.2.2.2.2.2.1 j) = 0 := if_neg hf
      rw [if_neg (by omega)]
      refine V_ald0 dX6_restore_0 ?_
      refine V_ild1 dX6_restore_1 ?_
      refine V_i2l dX6_restore_2 ?_
      refine V_lconst (v := 0) dX6_restore_3 (by decide) ?_
      refine V_lconst (v := 1) dX6_restore_4 (by decide) ?_
      refine V_cs3R lk_X6_86 cc_X6_in dX6_restore_5 (c_X6_inI w 0 1) ft_X6_restore_X6_in rfl rfl (Nat.le_of_ble_eq_true rfl) ?_
      refine V_if_ne (tgt := 15) dX6_restore_8 (by decide) (fun h8 => ?_) (fun h8 => ?_)
      · refine V_ald0 dX6_restore_15 ?_
        refine V_getR fd_X6_28 dX6_restore_16 (by assumption) (by assumption) rfl ?_
        refine V_ild1 dX6_restore_19 ?_
        refine V_bald (j := j) dX6_restore_20 (by assumption) ej (by omega) ?_
        refine V_if_eq (tgt := 28) dX6_restore_21 (by decide) (fun h21 => ?_) (fun h21 => ?_)
        · refine V_iconst (v := 2) dX6_restore_28 (by decide) ?_
          refine V_cv1R lk_X6_93 cc_X6_refused dX6_restore_29 (by assumption) (c_X6_refused h0 2) ft_X6_restore_X6_refused rfl rfl (Nat.le_of_ble_eq_true rfl) ?_
          refine V_if_eq (tgt := 37) dX6_restore_32 (by decide) (fun h32 => ?_) (fun h32 => ?_)
          · exact absurd h32 (by decide)
          · refine V_iconst (v := 0) dX6_restore_35 (by decide) ?_
            exact V_iret rfl dX6_restore_36 (by decide) (by decide) (xN_b2 hc kd _)
        · exact absurd (fl.trans b0) h21
      · exact absurd (bIt c) (by rw [h8]; decide)
end C59

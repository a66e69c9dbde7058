/-! ===== the reference: scripts ===== -/
theorem pow10 {m : Nat} : 10 ^ (5 * m) = 100000 ^ m := by rw [Nat.pow_mul]
theorem pow10_lt {m : Nat} (h : m ≤ 3) : 100000 ^ m < 2 ^ 62 := Nat.lt_of_le_of_lt (Nat.pow_le_pow_right (by decide) h) (by decide)
section C65
variable {E : xEnv} {l : Launch} {x : Bool} {n : Nat} {K : xKnd} {G : xRef} {M : xMem} {L : xLng} {a m T B : Nat} {S : xSp}
theorem c_X6_tenTo {q : xS} {j : Nat} (hj : j < 1000) : Con E l Y_X6_tenTo [.int (nI j)] q (xR (some (.long (lN (10 ^ j)))) q) xF := by
  refine Con.mk 3 mp_X6_tenTo rfl (ls := [some (.int (nI j)), none, none, none]) rfl (Nat.le_of_ble_eq_true rfl) ?_
  have loop : ∀ (r i : Nat), r + i = j → V E l Y_X6_tenTo (xQm E Y_X6_tenTo (xR (some (.long (lN (10 ^ j)))) q) xF) q (0, 0) 4 [some (.int (nI j)), some (.long (lN (10 ^ i))), none, some (.int (nI i))] [] := by
    intro r
    induction r with
    | zero =>
      intro i hi
      have e : i = j := by omega
      subst e
      refine V_ild3 dX6_tenTo_4 ?_
      refine V_ild0 dX6_tenTo_5 ?_
      refine V_icmp_ge (tgt := 21) dX6_tenTo_6 (by decide) (fun h6 => ?_) (fun h6 => ?_)
      · refine V_lld1 dX6_tenTo_21 ?_
        exact V_lret rfl dX6_tenTo_22 (by decide) (by decide) ⟨rfl, rfl⟩
      · exact absurd h6 (nI_nlt (Nat.le_refl i) (by omega))
    | succ r ih =>
      intro i hi
      have e10 : lN (10 ^ i) * 10 = lN (10 ^ (i + 1)) := by rw [show lN (10 ^ i) * 10 = lN (10 ^ i * 10) from lN_mul _ 10, Nat.pow_succ]
      refine V_ild3 dX6_tenTo_4 ?_
      refine V_ild0 dX6_tenTo_5 ?_
      refine V_icmp_ge (tgt := 21) dX6_tenTo_6 (by decide) (fun h6 => ?_) (fun h6 => ?_)
      · exact absurd (nI_lt (by omega) (by omega)) h6
      · refine V_lld1 dX6_tenTo_9 ?_
        refine V_ldc2 dX6_tenTo_10 mk_X6_40 ?_
        refine V_lmul dX6_tenTo_13 ?_
        rw [e10]
        refine V_lst1 dX6_tenTo_14 rfl (by decide) ?_
        refine V_inc3 dX6_tenTo_15 rfl (nI_1 i) ?_
        refine V_goto (tgt := 4) dX6_tenTo_18 (by decide) ?_
        exact ih (i + 1) (by omega)
  refine V_lconst (v := 1) dX6_tenTo_0 (by decide) ?_
  refine V_lst1 dX6_tenTo_1 rfl (by decide) ?_
  refine V_iconst (v := 0) dX6_tenTo_2 (by decide) ?_
  refine V_ist3 dX6_tenTo_3 rfl (by decide) ?_
  have := loop j 0 (by omega)
  rw [Nat.pow_zero] at this
  exact this
theorem c_X6_runScript (h : rM n K G m) (hc : MRel M m S) (hw : WFr S.2.2.1 T B) (hT : T ≤ 1000000) (hB : B < 2 ^ 29) (m9 : Int32) (s : Int64) : Con E l Y_X6_runScript [.ref m, .int m9, .long s] (x, n, K, G, M, L) (xN (kdScr m9 s) (aScr (gScr s.toBitVec.toNat m9.toNatClampNeg) m9.toNatClampNeg 0 S.2.2.1) S m x n K G M L) xF := by
  have hm := h
  have h0 := h.1
  have sR := hc.2.2.2.1.1
  have bad : kdScr m9 s = 1 → ∀ z, V E l Y_X6_runScript (xQm E Y_X6_runScript (xN (kdScr m9 s) (aScr (gScr s.toBitVec.toNat m9.toNatClampNeg) m9.toNatClampNeg 0 S.2.2.1) S m x n K G M L) xF) (x, n, K, G, M, L) (0, 0) 46 [some (.ref m), some (.int m9), some (.long s), none, some (.int z), none] [.ref m] := by
    intro kd z
    refine V_iconst (v := 1) dX6_runScript_46 (by decide) ?_
    refine V_cv1R lk_X6_93 cc_X6_refused dX6_runScript_47 (by assumption) (c_X6_refused h0 1) ft_X6_runScript_X6_refused rfl rfl (Nat.le_of_ble_eq_true rfl) ?_
    refine V_if_eq (tgt := 55) dX6_runScript_50 (by decide) (fun h50 => ?_) (fun h50 => ?_)
    · exact absurd h50 (by decide)
    · refine V_iconst (v := 0) dX6_runScript_53 (by decide) ?_
      exact V_iret rfl dX6_runScript_54 (by decide) (by decide) (xN_b hc kd _)
  refine Con.mk 2 mp_X6_runScript rfl (ls := [some (.ref m), some (.int m9), some (.long s), none, none, none]) rfl (Nat.le_of_ble_eq_true rfl) ?_
  by_cases c : m9 < 1 ∨ 3 < m9
  · refine V_ild1 dX6_runScript_0 ?_
    refine V_i2l dX6_runScript_1 ?_
    refine V_lconst (v := 1) dX6_runScript_2 (by decide) ?_
    refine V_ldc2 dX6_runScript_3 mk_X6_152 ?_
    refine V_cs3R lk_X6_86 cc_X6_in dX6_runScript_6 (c_X6_inI m9 1 3) ft_X6_runScript_X6_in rfl rfl (Nat.le_of_ble_eq_true rfl) ?_
    refine V_ist4 dX6_runScript_9 rfl (by decide) ?_
    refine V_ald0 dX6_runScript_11 ?_
    refine V_ild4 dX6_runScript_12 ?_
    refine V_if_eq (tgt := 46) dX6_runScript_14 (by decide) (fun h14 => ?_) (fun h14 => ?_)
    · exact bad (if_pos c) _
    · exact absurd (bIf (not_not_intro c)) h14
  · have c' := c
    rw [not_or] at c'
    obtain ⟨N, n1, n3, eN⟩ := xIdx1 (N := 3) (by decide) c'.1 c'.2
    have ek : m9.toNatClampNeg = N := by rw [eN, nI_clamp (by omega)]
    have p10 := pow10_lt n3
    have e5 : (5 : Int32) * m9 = nI (5 * N) := by rw [eN]; exact pk_mul 5 N
    have pos : 1 ≤ 100000 ^ N := Nat.pos_of_ne_zero (by have := Nat.pow_pos (n := N) (show 0 < 100000 by decide); omega)
    have e1 : lN (10 ^ (5 * N)) - 1 = lN (100000 ^ N - 1) := by rw [pow10]; exact lN_sub (b := 1) pos
    have kd : kdScr m9 s = if s < 0 ∨ kWg s N ≠ 0 then 1 else 0 := by unfold kdScr; rw [if_neg c, ek]
    have eq9 : (¬ s < 0 ∧ ¬ lN (100000 ^ N - 1) < s) ↔ kdScr m9 s = 0 := by
      rw [kd]
      by_cases q : s < 0
      · rw [if_pos (Or.inl q)]; exact ⟨fun z => absurd q z.1, fun z => absurd z (by decide)⟩
      · obtain ⟨t, t1, t2⟩ := pk_lOf q
        have lt : lN (100000 ^ N - 1) < s ↔ 100000 ^ N - 1 < t := by rw [t2]; exact pk_lLT (by omega) t1
        have wz : kWg s N = 0 ↔ t < 100000 ^ N := by
          rw [t2, kWg_n t1, show lN (t / 100000 ^ N) = 0 ↔ t / 100000 ^ N = 0 from pk_lEQ (b := 0) (Nat.lt_of_le_of_lt (Nat.div_le_self _ _) t1) (by decide), Nat.div_eq_zero_iff]
          exact ⟨fun z => z.resolve_left (by omega), Or.inr⟩
        rw [lt]
        by_cases z : t < 100000 ^ N
        · rw [if_neg (fun y => y.elim q (fun y => y (wz.mpr z)))]; exact ⟨fun _ => rfl, fun _ => ⟨q, by omega⟩⟩
        · rw [if_pos (Or.inr (fun y => z (wz.mp y)))]; exact ⟨fun y => absurd (by omega) y.2, fun y => absurd y (by decide)⟩
    have loop : ∀ t, t < 2 ^ 63 → s = lN t → kdScr m9 s = 0 → ∀ (A : Int32) (r i : Nat) (Q : xRow), r + i = N → Sh Q → WFr Q (T + 99 * i) (B + 216000 * i) → A = aScr (gScr t N) r i Q →
        V E l Y_X6_runScript (xQm E Y_X6_runScript (xN (kdScr m9 s) A S m x n K G M L) xF) (x, n, K, G, xro (xup M m 0 0) (m + 4) Q, L) (0, 0) 62 [some (.ref m), some (.int m9), some (.long s), none, some (.int (bI (¬ (m9 < 1 ∨ 3 < m9)))), some (.int (nI i))] [] := by
      intro t t1 t2 k0 A r
      have leaf : ∀ (Q : xRow) (y : Int32), Sh Q → y = A → xN (kdScr m9 s) A S m x n K G M L (some (.int y)) (x, n, K, G, xro (xup M m 0 0) (m + 4) Q, L) := fun Q y s e =>
        ⟨_, _, rfl, fun _ => e, rfl, (hc.ref 0).tri s, by rw [xro_n (by omega), xup_s, k0]; rfl, (Fm.up (by omega)).trans (Fm.ro (by omega))⟩
      subst t2
      induction r with
      | zero =>
        intro i Q hi sQ wQ he
        have e : i = N := by omega
        refine V_ild5 dX6_runScript_62 ?_
        refine V_ild1 dX6_runScript_64 ?_
        refine V_icmp_ge (tgt := 102) dX6_runScript_65 (by decide) (fun h65 => ?_) (fun h65 => ?_)
        · refine V_bipush (v := (-9)) dX6_runScript_102 (by decide) ?_
          exact V_iret rfl dX6_runScript_104 (by decide) (by decide) (leaf Q _ sQ (by rw [he]; rfl))
        · exact absurd h65 (by rw [eN, e]; exact nI_nlt (Nat.le_refl N) (by omega))
      | succ r ih =>
        intro i Q hi sQ wQ he
        have g5 : gScr t N i < 100000 := Nat.mod_lt _ (by decide)
        have ea : (5 : Int32) * (m9 - 1 - nI i) = nI (5 * (N - 1 - i)) := by
          rw [eN, show nI N - 1 = nI (N - 1) from pkSub (b := 1) n1, pkSub (by omega)]; exact pk_mul 5 _
        have pl := pow10_lt (m := N - 1 - i) (by omega)
        have pp : 0 < 100000 ^ (N - 1 - i) := Nat.pow_pos (by decide)
        have ne : ¬ lN (10 ^ (5 * (N - 1 - i))) = 0 := by
          rw [pow10]; intro q
          have := (pk_lEQ (b := 0) (show 100000 ^ (N - 1 - i) < 2 ^ 63 by omega) (by decide)).mp q
          omega
        have ed : (lN t / lN (10 ^ (5 * (N - 1 - i))) - lN t / lN (10 ^ (5 * (N - 1 - i))) / 100000 * 100000).toInt32 = nI (gScr t N i) := by
          rw [pow10, pk_lDiv t1 pp (by omega), show lN (t / 100000 ^ (N - 1 - i)) - lN (t / 100000 ^ (N - 1 - i)) / 100000 * 100000 = lN (t / 100000 ^ (N - 1 - i) % 100000) from pk_lRem (b := 100000) (Nat.lt_of_le_of_lt (Nat.div_le_self _ _) t1) (by decide) (by decide), lN_i]; rfl
        have sC : Sh (rCmdR Q (gScr t N i)) := by
          unfold rCmdR
          split
          · split
            · exact sQ.dr wQ _ _
            split
            · exact sQ.go _
            split
            · exact sQ.up (by omega) _
            · exact sQ
          · exact sQ
        refine V_ild5 dX6_runScript_62 ?_
        refine V_ild1 dX6_runScript_64 ?_
        refine V_icmp_ge (tgt := 102) dX6_runScript_65 (by decide) (fun h65 => ?_) (fun h65 => ?_)
        · exact absurd (by rw [eN]; exact nI_lt (by omega) (by omega)) h65
        · refine V_ald0 dX6_runScript_68 ?_
          refine V_lld2 dX6_runScript_69 ?_
          refine V_iconst (v := 5) dX6_runScript_70 (by decide) ?_
          refine V_ild1 dX6_runScript_71 ?_
          refine V_iconst (v := 1) dX6_runScript_72 (by decide) ?_
          refine V_isub dX6_runScript_73 ?_
          refine V_ild5 dX6_runScript_74 ?_
          refine V_isub dX6_runScript_76 ?_
          refine V_imul dX6_runScript_77 ?_
          rw [ea]
          refine V_cs1R lk_X6_156 cc_X6_tenTo dX6_runScript_78 (c_X6_tenTo (j := 5 * (N - 1 - i)) (by omega)) ft_X6_runScript_X6_tenTo rfl rfl (Nat.le_of_ble_eq_true rfl) ?_
          refine V_ldiv dX6_runScript_81 ne ?_
          refine V_ldc2 dX6_runScript_82 mk_X6_204 ?_
          refine V_lrem dX6_runScript_85 (by decide) ?_
          refine V_l2i dX6_runScript_86 ?_
          rw [ed]
          refine V_cv1R lk_X6_206 cc_X6_does dX6_runScript_87 (by assumption) (c_X6_does hm (Q := Q) xro_s wQ (k := gScr t N i) g5) ft_X6_runScript_X6_does rfl rfl (Nat.le_of_ble_eq_true rfl) ?_
          rw [xro_ro]
          refine V_if_ne (tgt := 96) dX6_runScript_90 (by decide) (fun h90 => ?_) (fun h90 => ?_)
          · rw [bI0, Decidable.not_not] at h90
            refine V_inc5 dX6_runScript_96 rfl (nI_1 i) ?_
            refine V_goto (tgt := 62) dX6_runScript_99 (by decide) ?_
            exact ih (i + 1) _ (by omega) sC ((wQ.cmd (by omega) (by omega) g5).mono (by omega) (by omega)) (by rw [he, aScr, if_pos h90])
          · rw [bI0] at h90
            refine V_ild5 dX6_runScript_93 ?_
            exact V_iret rfl dX6_runScript_95 (by decide) (by decide) (leaf _ _ sC (by rw [he, aScr, if_neg h90]))
    refine V_ild1 dX6_runScript_0 ?_
    refine V_i2l dX6_runScript_1 ?_
    refine V_lconst (v := 1) dX6_runScript_2 (by decide) ?_
    refine V_ldc2 dX6_runScript_3 mk_X6_152 ?_
    refine V_cs3R lk_X6_86 cc_X6_in dX6_runScript_6 (c_X6_inI m9 1 3) ft_X6_runScript_X6_in rfl rfl (Nat.le_of_ble_eq_true rfl) ?_
    refine V_ist4 dX6_runScript_9 rfl (by decide) ?_
    refine V_ald0 dX6_runScript_11 ?_
    refine V_ild4 dX6_runScript_12 ?_
    refine V_if_eq (tgt := 46) dX6_runScript_14 (by decide) (fun h14 => ?_) (fun h14 => ?_)
    · exact absurd (bIt c) (by rw [h14]; decide)
    · refine V_lld2 dX6_runScript_17 ?_
      refine V_lconst (v := 0) dX6_runScript_18 (by decide) ?_
      refine V_ild4 dX6_runScript_19 ?_
      refine V_if_eq (tgt := 30) dX6_runScript_21 (by decide) (fun h21 => ?_) (fun h21 => ?_)
      · exact absurd (bIt c) (by rw [h21]; decide)
      · refine V_iconst (v := 5) dX6_runScript_24 (by decide) ?_
        refine V_ild1 dX6_runScript_25 ?_
        refine V_imul dX6_runScript_26 ?_
        refine V_goto (tgt := 31) dX6_runScript_27 (by decide) ?_
        rw [e5]
        refine V_cs1R lk_X6_156 cc_X6_tenTo dX6_runScript_31 (c_X6_tenTo (j := 5 * N) (by omega)) ft_X6_runScript_X6_tenTo rfl rfl (Nat.le_of_ble_eq_true rfl) ?_
        refine V_lconst (v := 1) dX6_runScript_34 (by decide) ?_
        refine V_lsub dX6_runScript_35 ?_
        rw [e1]
        refine V_cs3R lk_X6_86 cc_X6_in dX6_runScript_36 (c_X6_in s 0 _) ft_X6_runScript_X6_in rfl rfl (Nat.le_of_ble_eq_true rfl) ?_
        refine V_if_eq (tgt := 46) dX6_runScript_39 (by decide) (fun h39 => ?_) (fun h39 => ?_)
        · exact bad (by rw [bI0, eq9, kd] at h39; rw [kd]; split; rfl; next q => exact absurd (if_neg q) h39) _
        · rw [bI0, Decidable.not_not, eq9] at h39
          obtain ⟨t, t1, t2⟩ := pk_lOf (eq9.mpr h39).1
          refine V_iconst (v := 0) dX6_runScript_42 (by decide) ?_
          refine V_goto (tgt := 47) dX6_runScript_43 (by decide) ?_
          refine V_cv1R lk_X6_93 cc_X6_refused dX6_runScript_47 (by assumption) (c_X6_refused h0 0) ft_X6_runScript_X6_refused rfl rfl (Nat.le_of_ble_eq_true rfl) ?_
          refine V_if_eq (tgt := 55) dX6_runScript_50 (by decide) (fun h50 => ?_) (fun h50 => ?_)
          · refine V_ald0 dX6_runScript_55 ?_
            refine V_cv0U lk_X6_194 cc_X6_begin dX6_runScript_56 (by assumption) (c_X6_begin hm (hc.ref 0)) ft_X6_runScript_X6_begin rfl rfl (Nat.le_of_ble_eq_true rfl) ?_
            refine V_iconst (v := 0) dX6_runScript_59 (by decide) ?_
            refine V_ist5 dX6_runScript_60 rfl (by decide) ?_
            refine loop t t1 t2 h39 _ N 0 S.2.2.1 (by omega) sR (hw.mono (by omega) (by omega)) ?_
            rw [ek, show s.toBitVec.toNat = t by rw [t2]; exact (BitVec.toNat_ofNat t 64).trans (Nat.mod_eq_of_lt (by omega))]
          · exact absurd (by decide) h50
end C65

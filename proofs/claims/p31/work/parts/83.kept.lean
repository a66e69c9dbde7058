/-! ===== the law: what is kept ===== -/
theorem nC_y {g : Nat → Int32} {v : Int32} {k : Nat} (h : g k = v) : nI (nC g v k) + 1 = nI (nC g v (k + 1)) := by rw [nI_1, show nC g v (k + 1) = nC g v k + (if g k = v then 1 else 0) from rfl, if_pos h]
theorem nC_n {g : Nat → Int32} {v : Int32} {k : Nat} (h : ¬ g k = v) : nI (nC g v k) + 0 = nI (nC g v (k + 1)) := by rw [Int32.add_zero, show nC g v (k + 1) = nC g v k + (if g k = v then 1 else 0) from rfl, if_neg h]; rfl
theorem i64_inj {a b : Int32} (h : a.toInt64 = b.toInt64) : a = b := by rw [← Int32.toInt32_toInt64 a, h, Int32.toInt32_toInt64]
theorem lNle {a b : Nat} (h : b ≤ a) (ha : a < 2 ^ 31) : ¬ lN a < lN b := fun q => absurd ((lN_lt ha (by omega)).mp q) (by omega)
/-- the fates of the record's drops, played with the window and the damping as they are -/
def gRep (R : xRow) : Nat → Int32 := fun k => nI (rDrF (rPlay R (R 2) (R 3) k) (R (109 + 2 * k)) (R (110 + 2 * k)))
section C83
variable {E : xEnv} {l : Launch} {n : Nat} {K : xKnd} {G : xRef} {M : xMem} {L : xLng} {o : Nat} {S : xSp}
set_option maxRecDepth 100000 in
set_option maxHeartbeats 4000000 in
theorem c_L_kept0 (hO : OK l n K G M L o S) {b c p f m : Nat → Nat} {d r : Nat} (hb1 : ∀ k, k < 7 → S.2.2.1 (16 + k) = nI (b k) ∧ 1 ≤ b k ∧ b k ≤ 5000) (hb2 : ∀ k, k < 6 → b k < b (k + 1)) (ha : KA S.2.2.1 c r) (hb : ∀ k, k < 8 → S.2.2.1 (23 + 3 * k) = nI (p k) ∧ S.2.2.1 (24 + 3 * k) = nI (f k) ∧ S.2.2.1 (25 + 3 * k) = nI (m k) ∧ f k ≤ p k ∧ p k ≤ m k) (h13 : S.2.2.1 13 = 0) (hs : nS p 8 ≤ c 0 ∧ nS m 8 ≤ c 0 + c 1) : Con E l Y_L_kept [.ref o] (false, n, K, G, M, L) (xJV (.int 1) S o n K G M L) xF := by
  have hx := hO.2.1.1
  obtain ⟨T, B, hw, hT, hB⟩ := hO.row
  have hcl := ha.cl
  have hr9 := ha.2.2.2.1
  have hr8 := ha.2.2.1
  have sE : nS c 4 = c 0 + c 1 + c 2 + c 3 := by simp only [nS, Nat.zero_add]
  have hps : nS p 8 ≤ c 0 ∧ nS m 8 ≤ c 0 + c 1 := hs
  have hfs : nS f 8 ≤ nS p 8 := nS_mono 8 fun i hi => (hb i hi).2.2.2.1
  have hm9 : ∀ k, k < 8 → m k ≤ nS m 8 := fun k hk => nS_ge 8 hk
  obtain ⟨v, a, ev, ea, va, a5⟩ := fLev hw
  obtain ⟨lf, elf⟩ : ∃ lf, lf = min (nS c 4) 60 := ⟨_, rfl⟩
  have hlf : lf ≤ 60 := by omega
  have e47 : S.2.2.1 47 = nI lf := by rw [elf]; exact ha.2.2.2.2.1
  have A10 : lAbout S.2.2.1 10 = lN lf := by rw [elf]; exact fA10 ha
  have hrl := hw.rlen
  have elr : xLr S.2.2.1 = min (nS c 4) 40 := (nI_eq (by omega) (by omega)).mp (hrl.2.symm.trans ha.2.2.2.2.2.1)
  obtain ⟨q2, q2a, q2b, e2⟩ := hw.2.1
  obtain ⟨q3, q3a, q3b, e3⟩ := hw.2.2.1
  have ks1 : kdSet 1 (S.2.2.1 2) = 0 := kdSetW (k := 1) (by decide) hw.2.1 rfl rfl (by decide)
  have ks2 : kdSet 2 (S.2.2.1 3) = 0 := kdSetW (k := 2) (by decide) hw.2.2.1 rfl rfl (by decide)
  have rn := fRain' hb hb1 hb2 (by omega)
  have tc : ∀ g, nC (tr S.2.2.1 lf) (nI g) lf ≤ lf := fun g => nC_le _
  obtain ⟨P0, P1⟩ := fPc h13
  refine Con.mk 16 mp_L_kept rfl (ls := [some (.ref o), none, none, none, none, none, none, none, none, none, none, none, none, none, none, none, none]) rfl (Nat.le_of_ble_eq_true rfl) ?_
  have s754 : ∀ (M9 : xMem) (L9 : xLng) (o14 : Option Value), CRel M9 L9 o S → Fr o M L M9 L9 → V E l Y_L_kept (xQm E Y_L_kept (xJV (.int 1) S o n K G M L) xF) (false, n, K, G, M9, L9) (394, 2364) 754 [some (.ref o), some (.long (lN (nS c 4))), none, some (.int 0), some (.int 1), some (.long (lN (nS p 8))), none, some (.long (lN (nS f 8))), none, some (.long (lN (nS m 8))), none, some (.int (nI lf)), some (.long (lN lf)), none, some (.long (lN (nS (fun i => nC (gRep S.2.2.1) (nI i) (xLr S.2.2.1)) 4))), none, o14] [] := by
    intro M9 L9 o14 c9 f9
    have hO9 := hO.go c9
    refine V_ild4 dL_kept_754 ?_
    refine V_xf_eq (tgt := 813) dL_kept_756 (by decide) (by decide) ?_
    refine V_lld12 dL_kept_759 ?_
    refine V_ild11 dL_kept_761 ?_
    refine V_i2l dL_kept_763 ?_
    refine V_zf_ne (tgt := 813) dL_kept_764 dL_kept_765 (by decide) ((nI_l (by omega)).symm) ?_
    refine V_ald0 dL_kept_768 ?_
    refine V_ild11 dL_kept_769 ?_
    refine V_ch2R (Y' := Y_L_fate) ml_L_116 ch_L_fate dL_kept_771 ((k_fate hO9 _).val ((fFate e47 hlf (by omega)).trans (if_neg (Nat.lt_irrefl lf)))) (by decide) (by decide) (by first | decide | (show _ ≤ 900; dsimp only; omega)) (by first | decide | (show _ ≤ 5400; dsimp only; omega)) (Nat.le_of_ble_eq_true rfl) ?_
    refine V_ldc2 dL_kept_774 mk_L_176 ?_
    refine V_zf_ne (tgt := 813) dL_kept_777 dL_kept_778 (by decide) (rfl) ?_
    refine V_lld14 dL_kept_781 ?_
    refine V_ald0 dL_kept_783 ?_
    refine V_bipush (v := 9) dL_kept_784 (by decide) ?_
    refine V_ch2R (Y' := Y_L_about) ml_L_104 ch_L_about dL_kept_786 ((k_about hO9 _).val (fA9 ha)) (by decide) (by decide) (by first | decide | (show _ ≤ 900; dsimp only; omega)) (by first | decide | (show _ ≤ 5400; dsimp only; omega)) (Nat.le_of_ble_eq_true rfl) ?_
    refine V_zf_ne (tgt := 813) dL_kept_789 dL_kept_790 (by decide) (by rw [← elr]; refine congrArg lN ?_; have := fRep4 (R := S.2.2.1) (w := S.2.2.1 2) (d := S.2.2.1 3) (xLr S.2.2.1); simp only [nS, Nat.zero_add]; exact this) ?_
    refine V_ald0 dL_kept_793 ?_
    refine V_ald0 dL_kept_794 ?_
    refine V_bipush (v := 8) dL_kept_795 (by decide) ?_
    refine V_ch2R (Y' := Y_L_about) ml_L_104 ch_L_about dL_kept_797 ((k_about hO9 _).val (fA8 ev (by omega))) (by decide) (by decide) (by first | decide | (show _ ≤ 900; dsimp only; omega)) (by first | decide | (show _ ≤ 5400; dsimp only; omega)) (Nat.le_of_ble_eq_true rfl) ?_
    refine V_l2i dL_kept_800 ?_
    rw [lN_i]
    refine V_ch2R (Y' := Y_L_quietIn) ml_L_144 ch_L_quietIn dL_kept_801 ((k_quietIn hO9 _).val (fQuiet ev (by omega))) (by decide) (by decide) (by first | decide | (show _ ≤ 900; dsimp only; omega)) (by first | decide | (show _ ≤ 5400; dsimp only; omega)) (Nat.le_of_ble_eq_true rfl) ?_
    refine V_lconst (v := 0) dL_kept_804 (by decide) ?_
    refine V_zf_ne (tgt := 813) dL_kept_805 dL_kept_806 (by decide) (rfl) ?_
    refine V_iconst (v := 1) dL_kept_809 (by decide) ?_
    refine V_goto (tgt := 814) dL_kept_810 (by decide) ?_
    exact V_zret rfl dL_kept_814 (Or.inr rfl) (by first | decide | (show _ ≤ 900; dsimp only; omega)) (by first | decide | (show _ ≤ 5400; dsimp only; omega)) ⟨rfl, _, _, rfl, c9, f9⟩
  have l4 : ∀ (e g : Nat) (M9 : xMem) (L9 : xLng), g + e = 4 → CRel M9 L9 o S → Fr o M L M9 L9 → V E l Y_L_kept (xQm E Y_L_kept (xJV (.int 1) S o n K G M L) xF) (false, n, K, G, M9, L9) (382 + 3 * g, 2292 + 18 * g) 719 [some (.ref o), some (.long (lN (nS c 4))), none, some (.int 0), some (.int 1), some (.long (lN (nS p 8))), none, some (.long (lN (nS f 8))), none, some (.long (lN (nS m 8))), none, some (.int (nI lf)), some (.long (lN lf)), none, some (.long (lN (nS (fun i => nC (gRep S.2.2.1) (nI i) (xLr S.2.2.1)) g))), none, some (.int (nI g))] [] := by
    intro e
    induction e with
    | zero =>
      intro g M9 L9 hg c9 f9
      have eg : g = 4 := by omega
      subst eg
      refine V_ild16 dL_kept_719 ?_
      refine V_iconst (v := 4) dL_kept_721 (by decide) ?_
      refine V_yt_ge (tgt := 754) dL_kept_722 (by decide) (by decide) ?_
      exact s754 M9 L9 _ c9 f9
    | succ e ih =>
      intro g M9 L9 hg c9 f9
      have hO9 := hO.go c9
      have gb := nC_le (f := gRep S.2.2.1) (v := nI g) (xLr S.2.2.1)
      refine V_ild16 dL_kept_719 ?_
      refine V_iconst (v := 4) dL_kept_721 (by decide) ?_
      refine V_yf_ge (tgt := 754) dL_kept_722 (by decide) (nI_lt (b := 4) (by omega) (by decide)) ?_
      refine V_lld14 dL_kept_725 ?_
      refine V_ald0 dL_kept_727 ?_
      refine V_ald0 dL_kept_728 ?_
      refine V_iconst (v := 1) dL_kept_729 (by decide) ?_
      refine V_ch2R (Y' := Y_L_setting) ml_L_109 ch_L_setting dL_kept_730 ((k_setting hO9 _).val (fSet (k := 1) (by decide))) (by decide) (by decide) (by first | decide | (show _ ≤ 900; dsimp only; omega)) (by first | decide | (show _ ≤ 5400; dsimp only; omega)) (Nat.le_of_ble_eq_true rfl) ?_
      refine V_l2i dL_kept_733 ?_
      rw [Int32.toInt32_toInt64]
      refine V_ald0 dL_kept_734 ?_
      refine V_iconst (v := 2) dL_kept_735 (by decide) ?_
      refine V_ch2R (Y' := Y_L_setting) ml_L_109 ch_L_setting dL_kept_736 ((k_setting hO9 _).val (fSet (k := 2) (by decide))) (by decide) (by decide) (by first | decide | (show _ ≤ 900; dsimp only; omega)) (by first | decide | (show _ ≤ 5400; dsimp only; omega)) (Nat.le_of_ble_eq_true rfl) ?_
      refine V_l2i dL_kept_739 ?_
      rw [Int32.toInt32_toInt64]
      refine V_ild16 dL_kept_740 ?_
      refine V_ch4J (Y' := Y_L_replay) ml_L_146 ch_L_replay dL_kept_742 ((k_replay hO9 _ _ _).jval (fRep ks1 ks2 (by omega) hrl.1) rfl) (by decide) (by decide) (by first | decide | (show _ ≤ 900; dsimp only; omega)) (by first | decide | (show _ ≤ 5400; dsimp only; omega)) (Nat.le_of_ble_eq_true rfl) (fun M8 L8 c8 f8 => ?_)
      refine V_ladd dL_kept_745 ?_
      rw [lN_add]
      refine V_lst14 dL_kept_746 rfl (by decide) ?_
      refine V_inc16 dL_kept_748 rfl (nI_1 _) ?_
      refine V_goto (tgt := 719) dL_kept_751 (by decide) ?_
      refine V_widen (k := 382 + 3 * (g + 1)) (n := 2292 + 18 * (g + 1)) (by dsimp only; omega) (by dsimp only; omega) (ih (g + 1) M8 L8 (by omega) c8 (f9.trans f8))
  have l3 : ∀ (e g : Nat) (o15 o16 : Option Value), g + e = 4 → V E l Y_L_kept (xQm E Y_L_kept (xJV (.int 1) S o n K G M L) xF) (false, n, K, G, M, L) (122 + 65 * g, 732 + 390 * g) 545 [some (.ref o), some (.long (lN (nS c 4))), none, some (.int 0), some (.int 1), some (.long (lN (nS p 8))), none, some (.long (lN (nS f 8))), none, some (.long (lN (nS m 8))), none, some (.int (nI lf)), some (.long (lN (nS (fun i => nC (tr S.2.2.1 lf) (nI i) lf) g))), none, some (.int (nI g)), o15, o16] [] := by
    intro e
    induction e with
    | zero =>
      intro g o15 o16 hg
      have eg : g = 4 := by omega
      subst eg
      have e4 : nS (fun i => nC (tr S.2.2.1 lf) (nI i) lf) 4 = lf := by
        have := fCnt4 ha
        rw [← elf] at this
        simp only [nS, Nat.zero_add]
        exact this
      rw [e4]
      refine V_ild14 dL_kept_545 ?_
      refine V_iconst (v := 4) dL_kept_547 (by decide) ?_
      refine V_yt_ge (tgt := 713) dL_kept_548 (by decide) (by decide) ?_
      refine V_lconst (v := 0) dL_kept_713 (by decide) ?_
      refine V_lst14 dL_kept_714 rfl (by decide) ?_
      refine V_iconst (v := 0) dL_kept_716 (by decide) ?_
      refine V_ist16 dL_kept_717 rfl (by decide) ?_
      exact l4 4 0 M L (by omega) hO.2.2.1 Fr.rfl'
    | succ e ih =>
      intro g o15 o16 hg
      have hg4 : g < 4 := by omega
      have tg := tc g
      have cg := hcl.2 g hg4
      have mg : (nC (tr S.2.2.1 lf) (nI g) lf) ≤ c g := by have := fCnt ha hg4; rw [← elf] at this; exact this
      obtain ⟨lq, Lq, lq1, lq2⟩ := fLong e47 hlf hg4
      have s705 : V E l Y_L_kept (xQm E Y_L_kept (xJV (.int 1) S o n K G M L) xF) (false, n, K, G, M, L) (122 + 65 * (g + 1), 732 + 390 * (g + 1)) 705 [some (.ref o), some (.long (lN (nS c 4))), none, some (.int 0), some (.int 1), some (.long (lN (nS p 8))), none, some (.long (lN (nS f 8))), none, some (.long (lN (nS m 8))), none, some (.int (nI lf)), some (.long (lN (nS (fun i => nC (tr S.2.2.1 lf) (nI i) lf) (g + 1)))), none, some (.int (nI g)), some (.int (nI (nC (tr S.2.2.1 lf) (nI g) lf))), some (.int (nI lf))] [.int 1] := by
        refine V_ist4 dL_kept_705 rfl (by decide) ?_
        refine V_inc14 dL_kept_707 rfl (nI_1 _) ?_
        refine V_goto (tgt := 545) dL_kept_710 (by decide) ?_
        exact ih (g + 1) _ _ (by omega)
      have s681 : ∀ y : Int32, (y = 1 ∧ (nC (tr S.2.2.1 lf) (nI g) lf) = 0 ∨ y = 0 ∧ ¬ (nC (tr S.2.2.1 lf) (nI g) lf) = 0) → V E l Y_L_kept (xQm E Y_L_kept (xJV (.int 1) S o n K G M L) xF) (false, n, K, G, M, L) (122 + 65 * g + 64, 732 + 390 * g + 384) 681 [some (.ref o), some (.long (lN (nS c 4))), none, some (.int 0), some (.int 1), some (.long (lN (nS p 8))), none, some (.long (lN (nS f 8))), none, some (.long (lN (nS m 8))), none, some (.int (nI lf)), some (.long (lN (nS (fun i => nC (tr S.2.2.1 lf) (nI i) lf) (g + 1)))), none, some (.int (nI g)), some (.int (nI (nC (tr S.2.2.1 lf) (nI g) lf))), some (.int (nI lf))] [.int y] := by
        rintro y (⟨rfl, hz⟩ | ⟨rfl, hz⟩)
        · refine V_ald0 dL_kept_681 ?_
          refine V_ild14 dL_kept_682 ?_
          refine V_ch2R (Y' := Y_L_longest) ml_L_126 ch_L_longest dL_kept_684 ((k_longest hO _).val Lq) (by decide) (by decide) (by first | decide | (show _ ≤ 900; dsimp only; omega)) (by first | decide | (show _ ≤ 5400; dsimp only; omega)) (Nat.le_of_ble_eq_true rfl) ?_
          refine V_lconst (v := 0) dL_kept_687 (by decide) ?_
          refine V_zf_ne (tgt := 696) dL_kept_688 dL_kept_689 (by decide) (by rw [lq2.mpr hz]; rfl) ?_
          refine V_iconst (v := 1) dL_kept_692 (by decide) ?_
          refine V_goto (tgt := 697) dL_kept_693 (by decide) ?_
          refine V_yf_ne (tgt := 704) dL_kept_697 (by decide) (rfl) ?_
          refine V_iconst (v := 1) dL_kept_700 (by decide) ?_
          refine V_goto (tgt := 705) dL_kept_701 (by decide) ?_
          refine V_widen (k := 122 + 65 * (g + 1)) (n := 732 + 390 * (g + 1)) (by dsimp only; omega) (by dsimp only; omega) s705
        · refine V_ald0 dL_kept_681 ?_
          refine V_ild14 dL_kept_682 ?_
          refine V_ch2R (Y' := Y_L_longest) ml_L_126 ch_L_longest dL_kept_684 ((k_longest hO _).val Lq) (by decide) (by decide) (by first | decide | (show _ ≤ 900; dsimp only; omega)) (by first | decide | (show _ ≤ 5400; dsimp only; omega)) (Nat.le_of_ble_eq_true rfl) ?_
          refine V_lconst (v := 0) dL_kept_687 (by decide) ?_
          refine V_zt_ne (tgt := 696) dL_kept_688 dL_kept_689 (by decide) (fun q => hz (lq2.mp ((lN_eq (b := 0) (by omega) (by decide)).mp q))) ?_
          refine V_iconst (v := 0) dL_kept_696 (by decide) ?_
          refine V_yf_ne (tgt := 704) dL_kept_697 (by decide) (rfl) ?_
          refine V_iconst (v := 1) dL_kept_700 (by decide) ?_
          refine V_goto (tgt := 705) dL_kept_701 (by decide) ?_
          refine V_widen (k := 122 + 65 * (g + 1)) (n := 732 + 390 * (g + 1)) (by dsimp only; omega) (by dsimp only; omega) s705
      have s644 : V E l Y_L_kept (xQm E Y_L_kept (xJV (.int 1) S o n K G M L) xF) (false, n, K, G, M, L) (122 + 65 * g + 62, 732 + 390 * g + 372) 644 [some (.ref o), some (.long (lN (nS c 4))), none, some (.int 0), some (.int 1), some (.long (lN (nS p 8))), none, some (.long (lN (nS f 8))), none, some (.long (lN (nS m 8))), none, some (.int (nI lf)), some (.long (lN (nS (fun i => nC (tr S.2.2.1 lf) (nI i) lf) (g + 1)))), none, some (.int (nI g)), some (.int (nI (nC (tr S.2.2.1 lf) (nI g) lf))), some (.int (nI lf))] [] := by
        refine V_ald0 dL_kept_644 ?_
        refine V_iconst (v := 1) dL_kept_645 (by decide) ?_
        refine V_ild14 dL_kept_646 ?_
        refine V_ch3R (Y' := Y_L_pattern) ml_L_128 ch_L_pattern dL_kept_648 ((k_pattern hO _ _).val (fPat e47 hlf hg4)) (by decide) (by decide) (by first | decide | (show _ ≤ 900; dsimp only; omega)) (by first | decide | (show _ ≤ 5400; dsimp only; omega)) (Nat.le_of_ble_eq_true rfl) ?_
        refine V_ild15 dL_kept_651 ?_
        refine V_i2l dL_kept_653 ?_
        refine V_zf_ne (tgt := 704) dL_kept_654 dL_kept_655 (by decide) ((nI_l (by omega)).symm) ?_
        refine V_ald0 dL_kept_658 ?_
        refine V_ild14 dL_kept_659 ?_
        refine V_ch2R (Y' := Y_L_longest) ml_L_126 ch_L_longest dL_kept_661 ((k_longest hO _).val Lq) (by decide) (by decide) (by first | decide | (show _ ≤ 900; dsimp only; omega)) (by first | decide | (show _ ≤ 5400; dsimp only; omega)) (Nat.le_of_ble_eq_true rfl) ?_
        refine V_ild15 dL_kept_664 ?_
        refine V_i2l dL_kept_666 ?_
        refine V_zf_gt (tgt := 704) dL_kept_667 dL_kept_668 (by decide) (by rw [nI_l (by omega)]; exact lNle lq1 (by omega)) ?_
        refine V_ild15 dL_kept_671 ?_
        refine V_if_ne (tgt := 680) dL_kept_673 (by decide) (fun h673 => ?_) (fun h673 => ?_)
        · refine V_iconst (v := 0) dL_kept_680 (by decide) ?_
          first
          | exact s681 _ (Or.inl ⟨rfl, (nI_eq (b := 0) (by omega) (by decide)).mp h673⟩)
          | exact s681 _ (Or.inr ⟨rfl, fun q => h673 (by rw [q]; rfl)⟩)
        · refine V_iconst (v := 1) dL_kept_676 (by decide) ?_
          refine V_goto (tgt := 681) dL_kept_677 (by decide) ?_
          first
          | exact s681 _ (Or.inl ⟨rfl, (nI_eq (b := 0) (by omega) (by decide)).mp h673⟩)
          | exact s681 _ (Or.inr ⟨rfl, fun q => h673 (by rw [q]; rfl)⟩)
      have s598 : V E l Y_L_kept (xQm E Y_L_kept (xJV (.int 1) S o n K G M L) xF) (false, n, K, G, M, L) (122 + 65 * g + 60, 732 + 390 * g + 360) 598 [some (.ref o), some (.long (lN (nS c 4))), none, some (.int 0), some (.int 1), some (.long (lN (nS p 8))), none, some (.long (lN (nS f 8))), none, some (.long (lN (nS m 8))), none, some (.int (nI lf)), some (.long (lN (nS (fun i => nC (tr S.2.2.1 lf) (nI i) lf) g))), none, some (.int (nI g)), some (.int (nI (nC (tr S.2.2.1 lf) (nI g) lf))), some (.int (nI lf))] [] := by
        refine V_lld12 dL_kept_598 ?_
        refine V_ild15 dL_kept_600 ?_
        refine V_i2l dL_kept_602 ?_
        rw [nI_l (by omega)]
        refine V_ladd dL_kept_603 ?_
        rw [lN_add]
        refine V_lst12 dL_kept_604 rfl (by decide) ?_
        refine V_ild15 dL_kept_606 ?_
        refine V_i2l dL_kept_608 ?_
        rw [nI_l (by omega)]
        refine V_ald0 dL_kept_609 ?_
        refine V_iconst (v := 2) dL_kept_610 (by decide) ?_
        refine V_ild14 dL_kept_611 ?_
        refine V_iadd dL_kept_613 ?_
        refine V_ch2R (Y' := Y_L_about) ml_L_104 ch_L_about dL_kept_614 ((k_about hO _).val (fA2 ha hg4)) (by decide) (by decide) (by first | decide | (show _ ≤ 900; dsimp only; omega)) (by first | decide | (show _ ≤ 5400; dsimp only; omega)) (Nat.le_of_ble_eq_true rfl) ?_
        refine V_zf_gt (tgt := 704) dL_kept_617 dL_kept_618 (by decide) (lNle mg (by omega)) ?_
        refine V_lld1 dL_kept_621 ?_
        refine V_ldc2 dL_kept_622 mk_L_166 ?_
        refine V_lb_gt (tgt := 644) dL_kept_625 dL_kept_626 (by decide) (fun h626 => ?_) (fun h626 => ?_)
        · refine V_widen (k := 122 + 65 * g + 62) (n := 732 + 390 * g + 372) (by dsimp only; omega) (by dsimp only; omega) s644
        · refine V_ild15 dL_kept_629 ?_
          refine V_i2l dL_kept_631 ?_
          rw [nI_l (by omega)]
          refine V_ald0 dL_kept_632 ?_
          refine V_iconst (v := 2) dL_kept_633 (by decide) ?_
          refine V_ild14 dL_kept_634 ?_
          refine V_iadd dL_kept_636 ?_
          refine V_ch2R (Y' := Y_L_about) ml_L_104 ch_L_about dL_kept_637 ((k_about hO _).val (fA2 ha hg4)) (by decide) (by decide) (by first | decide | (show _ ≤ 900; dsimp only; omega)) (by first | decide | (show _ ≤ 5400; dsimp only; omega)) (Nat.le_of_ble_eq_true rfl) ?_
          refine V_zf_ne (tgt := 704) dL_kept_640 dL_kept_641 (by decide) (congrArg lN (by rw [elf]; exact fCntE ha (Nat.not_lt.mp fun q => h626 ((lN_lt (a := 60) (by decide) (by omega)).mpr q)) hg4)) ?_
          refine V_widen (k := 122 + 65 * g + 62) (n := 732 + 390 * g + 372) (by dsimp only; omega) (by dsimp only; omega) s644
      have inn : ∀ (e k : Nat), k + e = lf → V E l Y_L_kept (xQm E Y_L_kept (xJV (.int 1) S o n K G M L) xF) (false, n, K, G, M, L) (122 + 65 * g + k, 732 + 390 * g + 6 * k) 562 [some (.ref o), some (.long (lN (nS c 4))), none, some (.int 0), some (.int 1), some (.long (lN (nS p 8))), none, some (.long (lN (nS f 8))), none, some (.long (lN (nS m 8))), none, some (.int (nI lf)), some (.long (lN (nS (fun i => nC (tr S.2.2.1 lf) (nI i) lf) g))), none, some (.int (nI g)), some (.int (nI (nC (tr S.2.2.1 lf) (nI g) k))), some (.int (nI k))] [] := by
        intro e
        induction e with
        | zero =>
          intro k hk
          have ek : k = lf := by omega
          subst ek
          refine V_ild16 dL_kept_562 ?_
          refine V_ild11 dL_kept_564 ?_
          refine V_yt_ge (tgt := 598) dL_kept_566 (by decide) (Int32.lt_irrefl) ?_
          refine V_widen (k := 122 + 65 * g + 60) (n := 732 + 390 * g + 360) (by dsimp only; omega) (by dsimp only; omega) s598
        | succ e ih2 =>
          intro k hk
          refine V_ild16 dL_kept_562 ?_
          refine V_ild11 dL_kept_564 ?_
          refine V_yf_ge (tgt := 598) dL_kept_566 (by decide) (nI_lt (by omega) (by omega)) ?_
          refine V_ild15 dL_kept_569 ?_
          refine V_ald0 dL_kept_571 ?_
          refine V_ild16 dL_kept_572 ?_
          refine V_ch2R (Y' := Y_L_fate) ml_L_116 ch_L_fate dL_kept_574 ((k_fate hO _).val ((fFate e47 hlf (by omega)).trans (if_pos (by omega)))) (by decide) (by decide) (by first | decide | (show _ ≤ 900; dsimp only; omega)) (by first | decide | (show _ ≤ 5400; dsimp only; omega)) (Nat.le_of_ble_eq_true rfl) ?_
          refine V_ild14 dL_kept_577 ?_
          refine V_i2l dL_kept_579 ?_
          refine V_lb_ne (tgt := 588) dL_kept_580 dL_kept_581 (by decide) (fun h581 => ?_) (fun h581 => ?_)
          · refine V_iconst (v := 0) dL_kept_588 (by decide) ?_
            refine V_iadd dL_kept_589 ?_
            first
            | rw [nC_y (g := tr S.2.2.1 lf) (k := k) (i64_inj h581)]
            | rw [nC_n (g := tr S.2.2.1 lf) (k := k) (v := nI g) (fun q => h581 (congrArg Int32.toInt64 q))]
            refine V_ist15 dL_kept_590 rfl (by decide) ?_
            refine V_inc16 dL_kept_592 rfl (nI_1 _) ?_
            refine V_goto (tgt := 562) dL_kept_595 (by decide) ?_
            exact ih2 (k + 1) (by omega)
          · refine V_iconst (v := 1) dL_kept_584 (by decide) ?_
            refine V_goto (tgt := 589) dL_kept_585 (by decide) ?_
            refine V_iadd dL_kept_589 ?_
            first
            | rw [nC_y (g := tr S.2.2.1 lf) (k := k) (i64_inj h581)]
            | rw [nC_n (g := tr S.2.2.1 lf) (k := k) (v := nI g) (fun q => h581 (congrArg Int32.toInt64 q))]
            refine V_ist15 dL_kept_590 rfl (by decide) ?_
            refine V_inc16 dL_kept_592 rfl (nI_1 _) ?_
            refine V_goto (tgt := 562) dL_kept_595 (by decide) ?_
            exact ih2 (k + 1) (by omega)
      refine V_ild14 dL_kept_545 ?_
      refine V_iconst (v := 4) dL_kept_547 (by decide) ?_
      refine V_yf_ge (tgt := 713) dL_kept_548 (by decide) (nI_lt (b := 4) (by omega) (by decide)) ?_
      refine V_ild4 dL_kept_551 ?_
      refine V_xf_eq (tgt := 713) dL_kept_553 (by decide) (by decide) ?_
      refine V_iconst (v := 0) dL_kept_556 (by decide) ?_
      refine V_ist15 dL_kept_557 rfl (by decide) ?_
      refine V_iconst (v := 0) dL_kept_559 (by decide) ?_
      refine V_ist16 dL_kept_560 rfl (by decide) ?_
      exact inn lf 0 (by omega)
  have s528 : V E l Y_L_kept (xQm E Y_L_kept (xJV (.int 1) S o n K G M L) xF) (false, n, K, G, M, L) (121, 726) 528 [some (.ref o), some (.long (lN (nS c 4))), none, some (.int 0), some (.int 1), some (.long (lN (nS p 8))), none, some (.long (lN (nS f 8))), none, some (.long (lN (nS m 8))), none, some (.int (nI 8)), none, none, none, none, none] [.int 1] := by
    refine V_ist4 dL_kept_528 rfl (by decide) ?_
    refine V_ald0 dL_kept_530 ?_
    refine V_bipush (v := 10) dL_kept_531 (by decide) ?_
    refine V_ch2R (Y' := Y_L_about) ml_L_104 ch_L_about dL_kept_533 ((k_about hO _).val A10) (by decide) (by decide) (by first | decide | (show _ ≤ 900; dsimp only; omega)) (by first | decide | (show _ ≤ 5400; dsimp only; omega)) (Nat.le_of_ble_eq_true rfl) ?_
    refine V_l2i dL_kept_536 ?_
    rw [lN_i]
    refine V_ist11 dL_kept_537 rfl (by decide) ?_
    refine V_lconst (v := 0) dL_kept_539 (by decide) ?_
    refine V_lst12 dL_kept_540 rfl (by decide) ?_
    refine V_iconst (v := 0) dL_kept_542 (by decide) ?_
    refine V_ist14 dL_kept_543 rfl (by decide) ?_
    exact l3 4 0 _ _ (by omega)
  have s292 : V E l Y_L_kept (xQm E Y_L_kept (xJV (.int 1) S o n K G M L) xF) (false, n, K, G, M, L) (104, 624) 292 [some (.ref o), some (.long (lN (nS c 4))), none, some (.int 0), some (.int 1), some (.long (lN (nS p 8))), none, some (.long (lN (nS f 8))), none, some (.long (lN (nS m 8))), none, some (.int (nI 8)), none, none, none, none, none] [] := by
    refine V_ild4 dL_kept_292 ?_
    refine V_xf_eq (tgt := 414) dL_kept_294 (by decide) (by decide) ?_
    refine V_ald0 dL_kept_297 ?_
    refine V_bipush (v := 6) dL_kept_298 (by decide) ?_
    refine V_ch2R (Y' := Y_L_about) ml_L_104 ch_L_about dL_kept_300 ((k_about hO _).val (fA6 hb (by omega)).1) (by decide) (by decide) (by first | decide | (show _ ≤ 900; dsimp only; omega)) (by first | decide | (show _ ≤ 5400; dsimp only; omega)) (Nat.le_of_ble_eq_true rfl) ?_
    refine V_lld5 dL_kept_303 ?_
    refine V_zf_ne (tgt := 414) dL_kept_305 dL_kept_306 (by decide) (rfl) ?_
    refine V_ald0 dL_kept_309 ?_
    refine V_bipush (v := 7) dL_kept_310 (by decide) ?_
    refine V_ch2R (Y' := Y_L_about) ml_L_104 ch_L_about dL_kept_312 ((k_about hO _).val (fA6 hb (by omega)).2) (by decide) (by decide) (by first | decide | (show _ ≤ 900; dsimp only; omega)) (by first | decide | (show _ ≤ 5400; dsimp only; omega)) (Nat.le_of_ble_eq_true rfl) ?_
    refine V_lld7 dL_kept_315 ?_
    refine V_zf_ne (tgt := 414) dL_kept_317 dL_kept_318 (by decide) (rfl) ?_
    refine V_lld5 dL_kept_321 ?_
    refine V_ild3 dL_kept_323 ?_
    refine V_xt_eq (tgt := 331) dL_kept_324 (by decide) (rfl) ?_
    refine V_lconst (v := 0) dL_kept_331 (by decide) ?_
    refine V_ladd dL_kept_332 ?_
    refine V_ald0 dL_kept_333 ?_
    refine V_iconst (v := 2) dL_kept_334 (by decide) ?_
    refine V_ch2R (Y' := Y_L_about) ml_L_104 ch_L_about dL_kept_335 ((k_about hO _).val (fA2' ha).1) (by decide) (by decide) (by first | decide | (show _ ≤ 900; dsimp only; omega)) (by first | decide | (show _ ≤ 5400; dsimp only; omega)) (Nat.le_of_ble_eq_true rfl) ?_
    refine V_zf_gt (tgt := 414) dL_kept_338 dL_kept_339 (by decide) (by rw [show lN (nS p 8) + 0 = lN (nS p 8) from lN_add _ 0]; exact lNle (by omega) (by omega)) ?_
    refine V_lld9 dL_kept_342 ?_
    refine V_ild3 dL_kept_344 ?_
    refine V_xt_eq (tgt := 356) dL_kept_345 (by decide) (rfl) ?_
    refine V_lconst (v := 0) dL_kept_356 (by decide) ?_
    refine V_ladd dL_kept_357 ?_
    refine V_ald0 dL_kept_358 ?_
    refine V_iconst (v := 2) dL_kept_359 (by decide) ?_
    refine V_ch2R (Y' := Y_L_about) ml_L_104 ch_L_about dL_kept_360 ((k_about hO _).val (fA2' ha).1) (by decide) (by decide) (by first | decide | (show _ ≤ 900; dsimp only; omega)) (by first | decide | (show _ ≤ 5400; dsimp only; omega)) (Nat.le_of_ble_eq_true rfl) ?_
    refine V_ald0 dL_kept_363 ?_
    refine V_iconst (v := 3) dL_kept_364 (by decide) ?_
    refine V_ch2R (Y' := Y_L_about) ml_L_104 ch_L_about dL_kept_365 ((k_about hO _).val (fA2' ha).2) (by decide) (by decide) (by first | decide | (show _ ≤ 900; dsimp only; omega)) (by first | decide | (show _ ≤ 5400; dsimp only; omega)) (Nat.le_of_ble_eq_true rfl) ?_
    refine V_ladd dL_kept_368 ?_
    refine V_zf_gt (tgt := 414) dL_kept_369 dL_kept_370 (by decide) (by rw [show lN (nS m 8) + 0 = lN (nS m 8) from lN_add _ 0, lN_add]; exact lNle (by omega) (by omega)) ?_
    refine V_ald0 dL_kept_373 ?_
    refine V_iconst (v := 0) dL_kept_374 (by decide) ?_
    refine V_ch2R (Y' := Y_L_rain) ml_L_130 ch_L_rain dL_kept_375 (k_rain hO _) (by decide) (by decide) (by first | decide | (show _ ≤ 900; dsimp only; omega)) (by first | decide | (show _ ≤ 5400; dsimp only; omega)) (Nat.le_of_ble_eq_true rfl) ?_
    refine V_ald0 dL_kept_378 ?_
    refine V_iconst (v := 1) dL_kept_379 (by decide) ?_
    refine V_ch2R (Y' := Y_L_rain) ml_L_130 ch_L_rain dL_kept_380 (k_rain hO _) (by decide) (by decide) (by first | decide | (show _ ≤ 900; dsimp only; omega)) (by first | decide | (show _ ≤ 5400; dsimp only; omega)) (Nat.le_of_ble_eq_true rfl) ?_
    refine V_zf_gt (tgt := 414) dL_kept_383 dL_kept_384 (by decide) (rn.1) ?_
    refine V_ald0 dL_kept_387 ?_
    refine V_iconst (v := 1) dL_kept_388 (by decide) ?_
    refine V_ch2R (Y' := Y_L_rain) ml_L_130 ch_L_rain dL_kept_389 (k_rain hO _) (by decide) (by decide) (by first | decide | (show _ ≤ 900; dsimp only; omega)) (by first | decide | (show _ ≤ 5400; dsimp only; omega)) (Nat.le_of_ble_eq_true rfl) ?_
    refine V_ald0 dL_kept_392 ?_
    refine V_iconst (v := 2) dL_kept_393 (by decide) ?_
    refine V_ch2R (Y' := Y_L_rain) ml_L_130 ch_L_rain dL_kept_394 (k_rain hO _) (by decide) (by decide) (by first | decide | (show _ ≤ 900; dsimp only; omega)) (by first | decide | (show _ ≤ 5400; dsimp only; omega)) (Nat.le_of_ble_eq_true rfl) ?_
    refine V_zf_gt (tgt := 414) dL_kept_397 dL_kept_398 (by decide) (rn.2) ?_
    refine V_ald0 dL_kept_401 ?_
    refine V_cv0R lk_L_118 cc_X5_trueRain dL_kept_402 (by assumption) (c_X5_trueRain hO.2.1 hO.2.2.1) (xFit.mk (by decide) (by decide) (by first | decide | (show _ ≤ 900; dsimp only; omega)) (by first | decide | (show _ ≤ 5400; dsimp only; omega))) rfl rfl (Nat.le_of_ble_eq_true rfl) ?_
    refine V_lld1 dL_kept_405 ?_
    refine V_zf_lt (tgt := 414) dL_kept_406 dL_kept_407 (by decide) (by rw [ha.2.1, nI_l (by omega)]; exact lNle ha.2.2.1 (by omega)) ?_
    refine V_iconst (v := 1) dL_kept_410 (by decide) ?_
    refine V_goto (tgt := 415) dL_kept_411 (by decide) ?_
    refine V_ist4 dL_kept_415 rfl (by decide) ?_
    refine V_ild4 dL_kept_417 ?_
    refine V_xf_eq (tgt := 527) dL_kept_419 (by decide) (by decide) ?_
    refine V_ild3 dL_kept_422 ?_
    refine V_xt_eq (tgt := 499) dL_kept_423 (by decide) (rfl) ?_
    refine V_ald0 dL_kept_499 ?_
    refine V_iconst (v := 0) dL_kept_500 (by decide) ?_
    refine V_ch2R (Y' := Y_L_pulse) ml_L_114 ch_L_pulse dL_kept_501 ((k_pulse hO _).val P0) (by decide) (by decide) (by first | decide | (show _ ≤ 900; dsimp only; omega)) (by first | decide | (show _ ≤ 5400; dsimp only; omega)) (Nat.le_of_ble_eq_true rfl) ?_
    refine V_ldc2 dL_kept_504 mk_L_176 ?_
    refine V_zf_ne (tgt := 527) dL_kept_507 dL_kept_508 (by decide) (rfl) ?_
    refine V_ald0 dL_kept_511 ?_
    refine V_iconst (v := 1) dL_kept_512 (by decide) ?_
    refine V_ch2R (Y' := Y_L_pulse) ml_L_114 ch_L_pulse dL_kept_513 ((k_pulse hO _).val P1) (by decide) (by decide) (by first | decide | (show _ ≤ 900; dsimp only; omega)) (by first | decide | (show _ ≤ 5400; dsimp only; omega)) (Nat.le_of_ble_eq_true rfl) ?_
    refine V_ldc2 dL_kept_516 mk_L_176 ?_
    refine V_zf_ne (tgt := 527) dL_kept_519 dL_kept_520 (by decide) (rfl) ?_
    refine V_iconst (v := 1) dL_kept_523 (by decide) ?_
    refine V_goto (tgt := 528) dL_kept_524 (by decide) ?_
    refine V_widen (k := 121) (n := 726) (by decide) (by decide) s528
  have l2 : ∀ e k : Nat, k + e = 8 → V E l Y_L_kept (xQm E Y_L_kept (xJV (.int 1) S o n K G M L) xF) (false, n, K, G, M, L) (8 + 12 * k, 48 + 72 * k) 121 [some (.ref o), some (.long (lN (nS c 4))), none, some (.int 0), some (.int 1), some (.long (lN (nS p k))), none, some (.long (lN (nS f k))), none, some (.long (lN (nS m k))), none, some (.int (nI k)), none, none, none, none, none] [] := by
    intro e
    induction e with
    | zero =>
      intro k hk
      have ek : k = 8 := by omega
      subst ek
      refine V_ild11 dL_kept_121 ?_
      refine V_bipush (v := 8) dL_kept_123 (by decide) ?_
      refine V_yt_ge (tgt := 292) dL_kept_125 (by decide) (by decide) ?_
      exact s292
    | succ e ih =>
      intro k hk
      have hk8 : k < 8 := by omega
      have hmk := hm9 k hk8
      have b2 := fB2 hb hk8 (by omega)
      have b0 := fB0 hb1 hb2 hk8
      obtain ⟨-, -, e5, e6, e7, e8⟩ := bE hb1 hb2 hk8
      obtain ⟨-, -, -, e9, e10⟩ := hb k hk8
      have s229 : V E l Y_L_kept (xQm E Y_L_kept (xJV (.int 1) S o n K G M L) xF) (false, n, K, G, M, L) (8 + 12 * k + 7, 48 + 72 * k + 42) 229 [some (.ref o), some (.long (lN (nS c 4))), none, some (.int 0), some (.int 1), some (.long (lN (nS p (k + 1)))), none, some (.long (lN (nS f (k + 1)))), none, some (.long (lN (nS m (k + 1)))), none, some (.int (nI k)), none, none, none, none, none] [] := by
        refine V_ald0 dL_kept_229 ?_
        refine V_ild11 dL_kept_230 ?_
        refine V_iconst (v := 3) dL_kept_232 (by decide) ?_
        refine V_ch3R (Y' := Y_L_bin) ml_L_111 ch_L_bin dL_kept_233 ((k_bin hO _ _).val b2.2.1) (by decide) (by decide) (by first | decide | (show _ ≤ 900; dsimp only; omega)) (by first | decide | (show _ ≤ 5400; dsimp only; omega)) (Nat.le_of_ble_eq_true rfl) ?_
        refine V_ald0 dL_kept_236 ?_
        refine V_ild11 dL_kept_237 ?_
        refine V_iconst (v := 2) dL_kept_239 (by decide) ?_
        refine V_ch3R (Y' := Y_L_bin) ml_L_111 ch_L_bin dL_kept_240 ((k_bin hO _ _).val b2.1) (by decide) (by decide) (by first | decide | (show _ ≤ 900; dsimp only; omega)) (by first | decide | (show _ ≤ 5400; dsimp only; omega)) (Nat.le_of_ble_eq_true rfl) ?_
        refine V_zf_gt (tgt := 283) dL_kept_243 dL_kept_244 (by decide) (lNle e9 (by omega)) ?_
        refine V_ald0 dL_kept_247 ?_
        refine V_ild11 dL_kept_248 ?_
        refine V_iconst (v := 4) dL_kept_250 (by decide) ?_
        refine V_ch3R (Y' := Y_L_bin) ml_L_111 ch_L_bin dL_kept_251 ((k_bin hO _ _).val b2.2.2) (by decide) (by decide) (by first | decide | (show _ ≤ 900; dsimp only; omega)) (by first | decide | (show _ ≤ 5400; dsimp only; omega)) (Nat.le_of_ble_eq_true rfl) ?_
        refine V_ald0 dL_kept_254 ?_
        refine V_ild11 dL_kept_255 ?_
        refine V_iconst (v := 2) dL_kept_257 (by decide) ?_
        refine V_ch3R (Y' := Y_L_bin) ml_L_111 ch_L_bin dL_kept_258 ((k_bin hO _ _).val b2.1) (by decide) (by decide) (by first | decide | (show _ ≤ 900; dsimp only; omega)) (by first | decide | (show _ ≤ 5400; dsimp only; omega)) (Nat.le_of_ble_eq_true rfl) ?_
        refine V_zf_lt (tgt := 283) dL_kept_261 dL_kept_262 (by decide) (lNle e10 (by omega)) ?_
        refine V_ald0 dL_kept_265 ?_
        refine V_bipush (v := 7) dL_kept_266 (by decide) ?_
        refine V_iconst (v := 1) dL_kept_268 (by decide) ?_
        refine V_ch3R (Y' := Y_L_bin) ml_L_111 ch_L_bin dL_kept_269 ((k_bin hO _ _).val (fB0 hb1 hb2 (k := 7) (by decide)).2) (by decide) (by decide) (by first | decide | (show _ ≤ 900; dsimp only; omega)) (by first | decide | (show _ ≤ 5400; dsimp only; omega)) (Nat.le_of_ble_eq_true rfl) ?_
        refine V_ldc2 dL_kept_272 mk_L_170 ?_
        refine V_zf_ne (tgt := 283) dL_kept_275 dL_kept_276 (by decide) (rfl) ?_
        refine V_iconst (v := 1) dL_kept_279 (by decide) ?_
        refine V_goto (tgt := 284) dL_kept_280 (by decide) ?_
        refine V_ist4 dL_kept_284 rfl (by decide) ?_
        refine V_inc11 dL_kept_286 rfl (nI_1 _) ?_
        refine V_goto (tgt := 121) dL_kept_289 (by decide) ?_
        refine V_widen (k := 8 + 12 * (k + 1)) (n := 48 + 72 * (k + 1)) (by dsimp only; omega) (by dsimp only; omega) (ih (k + 1) (by omega))
      refine V_ild11 dL_kept_121 ?_
      refine V_bipush (v := 8) dL_kept_123 (by decide) ?_
      refine V_yf_ge (tgt := 292) dL_kept_125 (by decide) (nI_lt (b := 8) (by omega) (by decide)) ?_
      refine V_ild4 dL_kept_128 ?_
      refine V_xf_eq (tgt := 292) dL_kept_130 (by decide) (by decide) ?_
      refine V_lld5 dL_kept_133 ?_
      refine V_ald0 dL_kept_135 ?_
      refine V_ild11 dL_kept_136 ?_
      refine V_iconst (v := 2) dL_kept_138 (by decide) ?_
      refine V_ch3R (Y' := Y_L_bin) ml_L_111 ch_L_bin dL_kept_139 ((k_bin hO _ _).val b2.1) (by decide) (by decide) (by first | decide | (show _ ≤ 900; dsimp only; omega)) (by first | decide | (show _ ≤ 5400; dsimp only; omega)) (Nat.le_of_ble_eq_true rfl) ?_
      refine V_ladd dL_kept_142 ?_
      rw [lN_add]
      refine V_lst5 dL_kept_143 rfl (by decide) ?_
      refine V_lld7 dL_kept_145 ?_
      refine V_ald0 dL_kept_147 ?_
      refine V_ild11 dL_kept_148 ?_
      refine V_iconst (v := 3) dL_kept_150 (by decide) ?_
      refine V_ch3R (Y' := Y_L_bin) ml_L_111 ch_L_bin dL_kept_151 ((k_bin hO _ _).val b2.2.1) (by decide) (by decide) (by first | decide | (show _ ≤ 900; dsimp only; omega)) (by first | decide | (show _ ≤ 5400; dsimp only; omega)) (Nat.le_of_ble_eq_true rfl) ?_
      refine V_ladd dL_kept_154 ?_
      rw [lN_add]
      refine V_lst7 dL_kept_155 rfl (by decide) ?_
      refine V_lld9 dL_kept_157 ?_
      refine V_ald0 dL_kept_159 ?_
      refine V_ild11 dL_kept_160 ?_
      refine V_iconst (v := 4) dL_kept_162 (by decide) ?_
      refine V_ch3R (Y' := Y_L_bin) ml_L_111 ch_L_bin dL_kept_163 ((k_bin hO _ _).val b2.2.2) (by decide) (by decide) (by first | decide | (show _ ≤ 900; dsimp only; omega)) (by first | decide | (show _ ≤ 5400; dsimp only; omega)) (Nat.le_of_ble_eq_true rfl) ?_
      refine V_ladd dL_kept_166 ?_
      rw [lN_add]
      refine V_lst9 dL_kept_167 rfl (by decide) ?_
      refine V_ald0 dL_kept_169 ?_
      refine V_ild11 dL_kept_170 ?_
      refine V_iconst (v := 0) dL_kept_172 (by decide) ?_
      refine V_ch3R (Y' := Y_L_bin) ml_L_111 ch_L_bin dL_kept_173 ((k_bin hO _ _).val b0.1) (by decide) (by decide) (by first | decide | (show _ ≤ 900; dsimp only; omega)) (by first | decide | (show _ ≤ 5400; dsimp only; omega)) (Nat.le_of_ble_eq_true rfl) ?_
      refine V_ald0 dL_kept_176 ?_
      refine V_ild11 dL_kept_177 ?_
      refine V_iconst (v := 1) dL_kept_179 (by decide) ?_
      refine V_ch3R (Y' := Y_L_bin) ml_L_111 ch_L_bin dL_kept_180 ((k_bin hO _ _).val b0.2) (by decide) (by decide) (by first | decide | (show _ ≤ 900; dsimp only; omega)) (by first | decide | (show _ ≤ 5400; dsimp only; omega)) (Nat.le_of_ble_eq_true rfl) ?_
      refine V_zf_gt (tgt := 283) dL_kept_183 dL_kept_184 (by decide) (lNle e5 (by omega)) ?_
      refine V_ild11 dL_kept_187 ?_
      refine V_if_ne (tgt := 207) dL_kept_189 (by decide) (fun h189 => ?_) (fun h189 => ?_)
      · refine V_ald0 dL_kept_207 ?_
        refine V_ild11 dL_kept_208 ?_
        refine V_iconst (v := 0) dL_kept_210 (by decide) ?_
        refine V_ch3R (Y' := Y_L_bin) ml_L_111 ch_L_bin dL_kept_211 ((k_bin hO _ _).val b0.1) (by decide) (by decide) (by first | decide | (show _ ≤ 900; dsimp only; omega)) (by first | decide | (show _ ≤ 5400; dsimp only; omega)) (Nat.le_of_ble_eq_true rfl) ?_
        refine V_ald0 dL_kept_214 ?_
        refine V_ild11 dL_kept_215 ?_
        refine V_iconst (v := 1) dL_kept_217 (by decide) ?_
        refine V_isub dL_kept_218 ?_
        have k1 : 1 ≤ k := Nat.pos_of_ne_zero fun q => h189 (by rw [q]; rfl)
        rw [show nI k - 1 = nI (k - 1) from pkSub (b := 1) k1]
        refine V_iconst (v := 1) dL_kept_219 (by decide) ?_
        refine V_ch3R (Y' := Y_L_bin) ml_L_111 ch_L_bin dL_kept_220 ((k_bin hO _ _).val (fB0 hb1 hb2 (k := k - 1) (by omega)).2) (by decide) (by decide) (by first | decide | (show _ ≤ 900; dsimp only; omega)) (by first | decide | (show _ ≤ 5400; dsimp only; omega)) (Nat.le_of_ble_eq_true rfl) ?_
        refine V_lconst (v := 1) dL_kept_223 (by decide) ?_
        refine V_ladd dL_kept_224 ?_
        refine V_zf_ne (tgt := 283) dL_kept_225 dL_kept_226 (by decide) (by rw [e8 (Nat.pos_of_ne_zero fun q => h189 (by rw [q]; rfl)), lN_1]) ?_
        refine V_widen (k := 8 + 12 * k + 7) (n := 48 + 72 * k + 42) (by dsimp only; omega) (by dsimp only; omega) s229
      · refine V_ald0 dL_kept_192 ?_
        refine V_ild11 dL_kept_193 ?_
        refine V_iconst (v := 0) dL_kept_195 (by decide) ?_
        refine V_ch3R (Y' := Y_L_bin) ml_L_111 ch_L_bin dL_kept_196 ((k_bin hO _ _).val b0.1) (by decide) (by decide) (by first | decide | (show _ ≤ 900; dsimp only; omega)) (by first | decide | (show _ ≤ 5400; dsimp only; omega)) (Nat.le_of_ble_eq_true rfl) ?_
        refine V_lconst (v := 0) dL_kept_199 (by decide) ?_
        refine V_zf_ne (tgt := 283) dL_kept_200 dL_kept_201 (by decide) (by rw [e7 ((nI_eq (b := 0) (by omega) (by decide)).mp h189)]; rfl) ?_
        refine V_goto (tgt := 229) dL_kept_204 (by decide) ?_
        refine V_widen (k := 8 + 12 * k + 7) (n := 48 + 72 * k + 42) (by dsimp only; omega) (by dsimp only; omega) s229
  have s98 : ∀ w : Int64, w = lN (min (nS c 4) 40) → V E l Y_L_kept (xQm E Y_L_kept (xJV (.int 1) S o n K G M L) xF) (false, n, K, G, M, L) (8, 48) 98 [some (.ref o), some (.long (lN (nS c 4))), none, some (.int 0), none, none, none, none, none, none, none, none, none, none, none, none, none] [.long w, .long (lN (min (nS c 4) 40))] := by
    intro w ew
    refine V_zf_ne (tgt := 106) dL_kept_98 dL_kept_99 (by decide) (ew.symm) ?_
    refine V_iconst (v := 1) dL_kept_102 (by decide) ?_
    refine V_goto (tgt := 107) dL_kept_103 (by decide) ?_
    refine V_ist4 dL_kept_107 rfl (by decide) ?_
    refine V_lconst (v := 0) dL_kept_109 (by decide) ?_
    refine V_lst5 dL_kept_110 rfl (by decide) ?_
    refine V_lconst (v := 0) dL_kept_112 (by decide) ?_
    refine V_lst7 dL_kept_113 rfl (by decide) ?_
    refine V_lconst (v := 0) dL_kept_115 (by decide) ?_
    refine V_lst9 dL_kept_116 rfl (by decide) ?_
    refine V_iconst (v := 0) dL_kept_118 (by decide) ?_
    refine V_ist11 dL_kept_119 rfl (by decide) ?_
    exact l2 8 0 (by omega)
  have s73 : ∀ w : Int64, w = lN lf → V E l Y_L_kept (xQm E Y_L_kept (xJV (.int 1) S o n K G M L) xF) (false, n, K, G, M, L) (7, 42) 73 [some (.ref o), some (.long (lN (nS c 4))), none, some (.int 0), none, none, none, none, none, none, none, none, none, none, none, none, none] [.long w, .long (lN lf)] := by
    intro w ew
    refine V_zf_ne (tgt := 106) dL_kept_73 dL_kept_74 (by decide) (ew.symm) ?_
    refine V_ald0 dL_kept_77 ?_
    refine V_bipush (v := 9) dL_kept_78 (by decide) ?_
    refine V_ch2R (Y' := Y_L_about) ml_L_104 ch_L_about dL_kept_80 ((k_about hO _).val (fA9 ha)) (by decide) (by decide) (by first | decide | (show _ ≤ 900; dsimp only; omega)) (by first | decide | (show _ ≤ 5400; dsimp only; omega)) (Nat.le_of_ble_eq_true rfl) ?_
    refine V_lld1 dL_kept_83 ?_
    refine V_ldc2 dL_kept_84 mk_L_168 ?_
    refine V_lb_ge (tgt := 95) dL_kept_87 dL_kept_88 (by decide) (fun h88 => ?_) (fun h88 => ?_)
    · refine V_ldc2 dL_kept_95 mk_L_168 ?_
      first
      | exact s98 _ (by rw [Nat.min_eq_right (Nat.not_lt.mp fun q => h88 ((lN_lt (b := 40) (by omega) (by decide)).mpr q))]; rfl)
      | exact s98 _ (by rw [Nat.min_eq_left (Nat.le_of_lt ((lN_lt (b := 40) (by omega) (by decide)).mp h88))])
    · refine V_lld1 dL_kept_91 ?_
      refine V_goto (tgt := 98) dL_kept_92 (by decide) ?_
      first
      | exact s98 _ (by rw [Nat.min_eq_right (Nat.not_lt.mp fun q => h88 ((lN_lt (b := 40) (by omega) (by decide)).mpr q))]; rfl)
      | exact s98 _ (by rw [Nat.min_eq_left (Nat.le_of_lt ((lN_lt (b := 40) (by omega) (by decide)).mp h88))])
  have s25 : V E l Y_L_kept (xQm E Y_L_kept (xJV (.int 1) S o n K G M L) xF) (false, n, K, G, M, L) (4, 24) 25 [some (.ref o), some (.long (lN (nS c 4))), none, some (.int (nI 4)), none, none, none, none, none, none, none, none, none, none, none, none, none] [] := by
    refine V_ald0 dL_kept_25 ?_
    refine V_bipush (v := 11) dL_kept_26 (by decide) ?_
    refine V_ch2R (Y' := Y_L_about) ml_L_104 ch_L_about dL_kept_28 ((k_about hO _).val fA11) (by decide) (by decide) (by first | decide | (show _ ≤ 900; dsimp only; omega)) (by first | decide | (show _ ≤ 5400; dsimp only; omega)) (Nat.le_of_ble_eq_true rfl) ?_
    refine V_lconst (v := 1) dL_kept_31 (by decide) ?_
    refine V_zt_ne (tgt := 40) dL_kept_32 dL_kept_33 (by decide) (by rw [h13]; decide) ?_
    refine V_iconst (v := 0) dL_kept_40 (by decide) ?_
    refine V_ist3 dL_kept_41 rfl (by decide) ?_
    refine V_lld1 dL_kept_42 ?_
    refine V_ald0 dL_kept_43 ?_
    refine V_iconst (v := 1) dL_kept_44 (by decide) ?_
    refine V_ch2R (Y' := Y_L_about) ml_L_104 ch_L_about dL_kept_45 ((k_about hO _).val (fA1 ha)) (by decide) (by decide) (by first | decide | (show _ ≤ 900; dsimp only; omega)) (by first | decide | (show _ ≤ 5400; dsimp only; omega)) (Nat.le_of_ble_eq_true rfl) ?_
    refine V_zf_ne (tgt := 106) dL_kept_48 dL_kept_49 (by decide) (rfl) ?_
    refine V_ald0 dL_kept_52 ?_
    refine V_bipush (v := 10) dL_kept_53 (by decide) ?_
    refine V_ch2R (Y' := Y_L_about) ml_L_104 ch_L_about dL_kept_55 ((k_about hO _).val A10) (by decide) (by decide) (by first | decide | (show _ ≤ 900; dsimp only; omega)) (by first | decide | (show _ ≤ 5400; dsimp only; omega)) (Nat.le_of_ble_eq_true rfl) ?_
    refine V_lld1 dL_kept_58 ?_
    refine V_ldc2 dL_kept_59 mk_L_166 ?_
    refine V_lb_ge (tgt := 70) dL_kept_62 dL_kept_63 (by decide) (fun h63 => ?_) (fun h63 => ?_)
    · refine V_ldc2 dL_kept_70 mk_L_166 ?_
      first
      | exact s73 _ (by rw [elf, Nat.min_eq_right (Nat.not_lt.mp fun q => h63 ((lN_lt (b := 60) (by omega) (by decide)).mpr q))]; rfl)
      | exact s73 _ (by rw [elf, Nat.min_eq_left (Nat.le_of_lt ((lN_lt (b := 60) (by omega) (by decide)).mp h63))])
    · refine V_lld1 dL_kept_66 ?_
      refine V_goto (tgt := 73) dL_kept_67 (by decide) ?_
      first
      | exact s73 _ (by rw [elf, Nat.min_eq_right (Nat.not_lt.mp fun q => h63 ((lN_lt (b := 60) (by omega) (by decide)).mpr q))]; rfl)
      | exact s73 _ (by rw [elf, Nat.min_eq_left (Nat.le_of_lt ((lN_lt (b := 60) (by omega) (by decide)).mp h63))])
  have l1 : ∀ e k : Nat, k + e = 4 → V E l Y_L_kept (xQm E Y_L_kept (xJV (.int 1) S o n K G M L) xF) (false, n, K, G, M, L) (k, 6 * k) 4 [some (.ref o), some (.long (lN (nS c k))), none, some (.int (nI k)), none, none, none, none, none, none, none, none, none, none, none, none, none] [] := by
    intro e
    induction e with
    | zero =>
      intro k hk
      have ek : k = 4 := by omega
      subst ek
      refine V_ild3 dL_kept_4 ?_
      refine V_iconst (v := 4) dL_kept_5 (by decide) ?_
      refine V_yt_ge (tgt := 25) dL_kept_6 (by decide) (by decide) ?_
      exact s25
    | succ e ih =>
      intro k hk
      refine V_ild3 dL_kept_4 ?_
      refine V_iconst (v := 4) dL_kept_5 (by decide) ?_
      refine V_yf_ge (tgt := 25) dL_kept_6 (by decide) (nI_lt (b := 4) (by omega) (by decide)) ?_
      refine V_lld1 dL_kept_9 ?_
      refine V_ald0 dL_kept_10 ?_
      refine V_iconst (v := 2) dL_kept_11 (by decide) ?_
      refine V_ild3 dL_kept_12 ?_
      refine V_iadd dL_kept_13 ?_
      refine V_ch2R (Y' := Y_L_about) ml_L_104 ch_L_about dL_kept_14 ((k_about hO _).val (fA2 ha (by omega))) (by decide) (by decide) (by first | decide | (show _ ≤ 900; dsimp only; omega)) (by first | decide | (show _ ≤ 5400; dsimp only; omega)) (Nat.le_of_ble_eq_true rfl) ?_
      refine V_ladd dL_kept_17 ?_
      rw [lN_add]
      refine V_lst1 dL_kept_18 rfl (by decide) ?_
      refine V_inc3 dL_kept_19 rfl (nI_1 _) ?_
      refine V_goto (tgt := 4) dL_kept_22 (by decide) ?_
      refine V_widen (k := k + 1) (n := 6 * (k + 1)) (by dsimp only; omega) (by dsimp only; omega) (ih (k + 1) (by omega))
  refine V_lconst (v := 0) dL_kept_0 (by decide) ?_
  refine V_lst1 dL_kept_1 rfl (by decide) ?_
  refine V_iconst (v := 0) dL_kept_2 (by decide) ?_
  refine V_ist3 dL_kept_3 rfl (by decide) ?_
  exact l1 4 0 (by omega)
set_option maxRecDepth 100000 in
set_option maxHeartbeats 4000000 in
theorem c_L_kept1 (hO : OK l n K G M L o S) {b c p f m : Nat → Nat} {d r : Nat} (hb1 : ∀ k, k < 7 → S.2.2.1 (16 + k) = nI (b k) ∧ 1 ≤ b k ∧ b k ≤ 5000) (hb2 : ∀ k, k < 6 → b k < b (k + 1)) (ha : KA S.2.2.1 c r) (hb : ∀ k, k < 8 → S.2.2.1 (23 + 3 * k) = nI (p k) ∧ S.2.2.1 (24 + 3 * k) = nI (f k) ∧ S.2.2.1 (25 + 3 * k) = nI (m k) ∧ f k ≤ p k ∧ p k ≤ m k) (h13 : S.2.2.1 13 = 1) (hs : S.2.2.1 14 = nI d ∧ 1 ≤ d ∧ nb (S.2.2.1 12) 1 5000 ∧ nS p 8 + 1 ≤ c 0 ∧ nS m 8 + d ≤ c 0 + c 1) : Con E l Y_L_kept [.ref o] (false, n, K, G, M, L) (xJV (.int 1) S o n K G M L) xF := by
  have hx := hO.2.1.1
  obtain ⟨T, B, hw, hT, hB⟩ := hO.row
  have hcl := ha.cl
  have hr9 := ha.2.2.2.1
  have hr8 := ha.2.2.1
  have sE : nS c 4 = c 0 + c 1 + c 2 + c 3 := by simp only [nS, Nat.zero_add]
  have hps : nS p 8 ≤ c 0 ∧ nS m 8 ≤ c 0 + c 1 := ⟨by omega, by omega⟩
  have hfs : nS f 8 ≤ nS p 8 := nS_mono 8 fun i hi => (hb i hi).2.2.2.1
  have hm9 : ∀ k, k < 8 → m k ≤ nS m 8 := fun k hk => nS_ge 8 hk
  obtain ⟨v, a, ev, ea, va, a5⟩ := fLev hw
  obtain ⟨lf, elf⟩ : ∃ lf, lf = min (nS c 4) 60 := ⟨_, rfl⟩
  have hlf : lf ≤ 60 := by omega
  have e47 : S.2.2.1 47 = nI lf := by rw [elf]; exact ha.2.2.2.2.1
  have A10 : lAbout S.2.2.1 10 = lN lf := by rw [elf]; exact fA10 ha
  have hrl := hw.rlen
  have elr : xLr S.2.2.1 = min (nS c 4) 40 := (nI_eq (by omega) (by omega)).mp (hrl.2.symm.trans ha.2.2.2.2.2.1)
  obtain ⟨q2, q2a, q2b, e2⟩ := hw.2.1
  obtain ⟨q3, q3a, q3b, e3⟩ := hw.2.2.1
  have ks1 : kdSet 1 (S.2.2.1 2) = 0 := kdSetW (k := 1) (by decide) hw.2.1 rfl rfl (by decide)
  have ks2 : kdSet 2 (S.2.2.1 3) = 0 := kdSetW (k := 2) (by decide) hw.2.2.1 rfl rfl (by decide)
  have rn := fRain' hb hb1 hb2 (by omega)
  have tc : ∀ g, nC (tr S.2.2.1 lf) (nI g) lf ≤ lf := fun g => nC_le _
  have a1 : 1 ≤ a := by
    obtain ⟨z, z1, z2, ez⟩ := hs.2.2.1
    have := (nI_eq (by omega) (by omega)).mp (ez.symm.trans ea)
    omega
  obtain ⟨⟨pg, pg1, P0⟩, P1, P2, pq, pq1, P3⟩ := fPo h13 hw (by omega) ea a5 hs.1 (show d < 2 ^ 31 by omega)
  refine Con.mk 16 mp_L_kept rfl (ls := [some (.ref o), none, none, none, none, none, none, none, none, none, none, none, none, none, none, none, none]) rfl (Nat.le_of_ble_eq_true rfl) ?_
  have s754 : ∀ (M9 : xMem) (L9 : xLng) (o14 : Option Value), CRel M9 L9 o S → Fr o M L M9 L9 → V E l Y_L_kept (xQm E Y_L_kept (xJV (.int 1) S o n K G M L) xF) (false, n, K, G, M9, L9) (394, 2364) 754 [some (.ref o), some (.long (lN (nS c 4))), none, some (.int 1), some (.int 1), some (.long (lN (nS p 8))), none, some (.long (lN (nS f 8))), none, some (.long (lN (nS m 8))), none, some (.int (nI lf)), some (.long (lN lf)), none, some (.long (lN (nS (fun i => nC (gRep S.2.2.1) (nI i) (xLr S.2.2.1)) 4))), none, o14] [] := by
    intro M9 L9 o14 c9 f9
    have hO9 := hO.go c9
    refine V_ild4 dL_kept_754 ?_
    refine V_xf_eq (tgt := 813) dL_kept_756 (by decide) (by decide) ?_
    refine V_lld12 dL_kept_759 ?_
    refine V_ild11 dL_kept_761 ?_
    refine V_i2l dL_kept_763 ?_
    refine V_zf_ne (tgt := 813) dL_kept_764 dL_kept_765 (by decide) ((nI_l (by omega)).symm) ?_
    refine V_ald0 dL_kept_768 ?_
    refine V_ild11 dL_kept_769 ?_
    refine V_ch2R (Y' := Y_L_fate) ml_L_116 ch_L_fate dL_kept_771 ((k_fate hO9 _).val ((fFate e47 hlf (by omega)).trans (if_neg (Nat.lt_irrefl lf)))) (by decide) (by decide) (by first | decide | (show _ ≤ 900; dsimp only; omega)) (by first | decide | (show _ ≤ 5400; dsimp only; omega)) (Nat.le_of_ble_eq_true rfl) ?_
    refine V_ldc2 dL_kept_774 mk_L_176 ?_
    refine V_zf_ne (tgt := 813) dL_kept_777 dL_kept_778 (by decide) (rfl) ?_
    refine V_lld14 dL_kept_781 ?_
    refine V_ald0 dL_kept_783 ?_
    refine V_bipush (v := 9) dL_kept_784 (by decide) ?_
    refine V_ch2R (Y' := Y_L_about) ml_L_104 ch_L_about dL_kept_786 ((k_about hO9 _).val (fA9 ha)) (by decide) (by decide) (by first | decide | (show _ ≤ 900; dsimp only; omega)) (by first | decide | (show _ ≤ 5400; dsimp only; omega)) (Nat.le_of_ble_eq_true rfl) ?_
    refine V_zf_ne (tgt := 813) dL_kept_789 dL_kept_790 (by decide) (by rw [← elr]; refine congrArg lN ?_; have := fRep4 (R := S.2.2.1) (w := S.2.2.1 2) (d := S.2.2.1 3) (xLr S.2.2.1); simp only [nS, Nat.zero_add]; exact this) ?_
    refine V_ald0 dL_kept_793 ?_
    refine V_ald0 dL_kept_794 ?_
    refine V_bipush (v := 8) dL_kept_795 (by decide) ?_
    refine V_ch2R (Y' := Y_L_about) ml_L_104 ch_L_about dL_kept_797 ((k_about hO9 _).val (fA8 ev (by omega))) (by decide) (by decide) (by first | decide | (show _ ≤ 900; dsimp only; omega)) (by first | decide | (show _ ≤ 5400; dsimp only; omega)) (Nat.le_of_ble_eq_true rfl) ?_
    refine V_l2i dL_kept_800 ?_
    rw [lN_i]
    refine V_ch2R (Y' := Y_L_quietIn) ml_L_144 ch_L_quietIn dL_kept_801 ((k_quietIn hO9 _).val (fQuiet ev (by omega))) (by decide) (by decide) (by first | decide | (show _ ≤ 900; dsimp only; omega)) (by first | decide | (show _ ≤ 5400; dsimp only; omega)) (Nat.le_of_ble_eq_true rfl) ?_
    refine V_lconst (v := 0) dL_kept_804 (by decide) ?_
    refine V_zf_ne (tgt := 813) dL_kept_805 dL_kept_806 (by decide) (rfl) ?_
    refine V_iconst (v := 1) dL_kept_809 (by decide) ?_
    refine V_goto (tgt := 814) dL_kept_810 (by decide) ?_
    exact V_zret rfl dL_kept_814 (Or.inr rfl) (by first | decide | (show _ ≤ 900; dsimp only; omega)) (by first | decide | (show _ ≤ 5400; dsimp only; omega)) ⟨rfl, _, _, rfl, c9, f9⟩
  have l4 : ∀ (e g : Nat) (M9 : xMem) (L9 : xLng), g + e = 4 → CRel M9 L9 o S → Fr o M L M9 L9 → V E l Y_L_kept (xQm E Y_L_kept (xJV (.int 1) S o n K G M L) xF) (false, n, K, G, M9, L9) (382 + 3 * g, 2292 + 18 * g) 719 [some (.ref o), some (.long (lN (nS c 4))), none, some (.int 1), some (.int 1), some (.long (lN (nS p 8))), none, some (.long (lN (nS f 8))), none, some (.long (lN (nS m 8))), none, some (.int (nI lf)), some (.long (lN lf)), none, some (.long (lN (nS (fun i => nC (gRep S.2.2.1) (nI i) (xLr S.2.2.1)) g))), none, some (.int (nI g))] [] := by
    intro e
    induction e with
    | zero =>
      intro g M9 L9 hg c9 f9
      have eg : g = 4 := by omega
      subst eg
      refine V_ild16 dL_kept_719 ?_
      refine V_iconst (v := 4) dL_kept_721 (by decide) ?_
      refine V_yt_ge (tgt := 754) dL_kept_722 (by decide) (by decide) ?_
      exact s754 M9 L9 _ c9 f9
    | succ e ih =>
      intro g M9 L9 hg c9 f9
      have hO9 := hO.go c9
      have gb := nC_le (f := gRep S.2.2.1) (v := nI g) (xLr S.2.2.1)
      refine V_ild16 dL_kept_719 ?_
      refine V_iconst (v := 4) dL_kept_721 (by decide) ?_
      refine V_yf_ge (tgt := 754) dL_kept_722 (by decide) (nI_lt (b := 4) (by omega) (by decide)) ?_
      refine V_lld14 dL_kept_725 ?_
      refine V_ald0 dL_kept_727 ?_
      refine V_ald0 dL_kept_728 ?_
      refine V_iconst (v := 1) dL_kept_729 (by decide) ?_
      refine V_ch2R (Y' := Y_L_setting) ml_L_109 ch_L_setting dL_kept_730 ((k_setting hO9 _).val (fSet (k := 1) (by decide))) (by decide) (by decide) (by first | decide | (show _ ≤ 900; dsimp only; omega)) (by first | decide | (show _ ≤ 5400; dsimp only; omega)) (Nat.le_of_ble_eq_true rfl) ?_
      refine V_l2i dL_kept_733 ?_
      rw [Int32.toInt32_toInt64]
      refine V_ald0 dL_kept_734 ?_
      refine V_iconst (v := 2) dL_kept_735 (by decide) ?_
      refine V_ch2R (Y' := Y_L_setting) ml_L_109 ch_L_setting dL_kept_736 ((k_setting hO9 _).val (fSet (k := 2) (by decide))) (by decide) (by decide) (by first | decide | (show _ ≤ 900; dsimp only; omega)) (by first | decide | (show _ ≤ 5400; dsimp only; omega)) (Nat.le_of_ble_eq_true rfl) ?_
      refine V_l2i dL_kept_739 ?_
      rw [Int32.toInt32_toInt64]
      refine V_ild16 dL_kept_740 ?_
      refine V_ch4J (Y' := Y_L_replay) ml_L_146 ch_L_replay dL_kept_742 ((k_replay hO9 _ _ _).jval (fRep ks1 ks2 (by omega) hrl.1) rfl) (by decide) (by decide) (by first | decide | (show _ ≤ 900; dsimp only; omega)) (by first | decide | (show _ ≤ 5400; dsimp only; omega)) (Nat.le_of_ble_eq_true rfl) (fun M8 L8 c8 f8 => ?_)
      refine V_ladd dL_kept_745 ?_
      rw [lN_add]
      refine V_lst14 dL_kept_746 rfl (by decide) ?_
      refine V_inc16 dL_kept_748 rfl (nI_1 _) ?_
      refine V_goto (tgt := 719) dL_kept_751 (by decide) ?_
      refine V_widen (k := 382 + 3 * (g + 1)) (n := 2292 + 18 * (g + 1)) (by dsimp only; omega) (by dsimp only; omega) (ih (g + 1) M8 L8 (by omega) c8 (f9.trans f8))
  have l3 : ∀ (e g : Nat) (o15 o16 : Option Value), g + e = 4 → V E l Y_L_kept (xQm E Y_L_kept (xJV (.int 1) S o n K G M L) xF) (false, n, K, G, M, L) (122 + 65 * g, 732 + 390 * g) 545 [some (.ref o), some (.long (lN (nS c 4))), none, some (.int 1), some (.int 1), some (.long (lN (nS p 8))), none, some (.long (lN (nS f 8))), none, some (.long (lN (nS m 8))), none, some (.int (nI lf)), some (.long (lN (nS (fun i => nC (tr S.2.2.1 lf) (nI i) lf) g))), none, some (.int (nI g)), o15, o16] [] := by
    intro e
    induction e with
    | zero =>
      intro g o15 o16 hg
      have eg : g = 4 := by omega
      subst eg
      have e4 : nS (fun i => nC (tr S.2.2.1 lf) (nI i) lf) 4 = lf := by
        have := fCnt4 ha
        rw [← elf] at this
        simp only [nS, Nat.zero_add]
        exact this
      rw [e4]
      refine V_ild14 dL_kept_545 ?_
      refine V_iconst (v := 4) dL_kept_547 (by decide) ?_
      refine V_yt_ge (tgt := 713) dL_kept_548 (by decide) (by decide) ?_
      refine V_lconst (v := 0) dL_kept_713 (by decide) ?_
      refine V_lst14 dL_kept_714 rfl (by decide) ?_
      refine V_iconst (v := 0) dL_kept_716 (by decide) ?_
      refine V_ist16 dL_kept_717 rfl (by decide) ?_
      exact l4 4 0 M L (by omega) hO.2.2.1 Fr.rfl'
    | succ e ih =>
      intro g o15 o16 hg
      have hg4 : g < 4 := by omega
      have tg := tc g
      have cg := hcl.2 g hg4
      have mg : (nC (tr S.2.2.1 lf) (nI g) lf) ≤ c g := by have := fCnt ha hg4; rw [← elf] at this; exact this
      obtain ⟨lq, Lq, lq1, lq2⟩ := fLong e47 hlf hg4
      have s705 : V E l Y_L_kept (xQm E Y_L_kept (xJV (.int 1) S o n K G M L) xF) (false, n, K, G, M, L) (122 + 65 * (g + 1), 732 + 390 * (g + 1)) 705 [some (.ref o), some (.long (lN (nS c 4))), none, some (.int 1), some (.int 1), some (.long (lN (nS p 8))), none, some (.long (lN (nS f 8))), none, some (.long (lN (nS m 8))), none, some (.int (nI lf)), some (.long (lN (nS (fun i => nC (tr S.2.2.1 lf) (nI i) lf) (g + 1)))), none, some (.int (nI g)), some (.int (nI (nC (tr S.2.2.1 lf) (nI g) lf))), some (.int (nI lf))] [.int 1] := by
        refine V_ist4 dL_kept_705 rfl (by decide) ?_
        refine V_inc14 dL_kept_707 rfl (nI_1 _) ?_
        refine V_goto (tgt := 545) dL_kept_710 (by decide) ?_
        exact ih (g + 1) _ _ (by omega)
      have s681 : ∀ y : Int32, (y = 1 ∧ (nC (tr S.2.2.1 lf) (nI g) lf) = 0 ∨ y = 0 ∧ ¬ (nC (tr S.2.2.1 lf) (nI g) lf) = 0) → V E l Y_L_kept (xQm E Y_L_kept (xJV (.int 1) S o n K G M L) xF) (false, n, K, G, M, L) (122 + 65 * g + 64, 732 + 390 * g + 384) 681 [some (.ref o), some (.long (lN (nS c 4))), none, some (.int 1), some (.int 1), some (.long (lN (nS p 8))), none, some (.long (lN (nS f 8))), none, some (.long (lN (nS m 8))), none, some (.int (nI lf)), some (.long (lN (nS (fun i => nC (tr S.2.2.1 lf) (nI i) lf) (g + 1)))), none, some (.int (nI g)), some (.int (nI (nC (tr S.2.2.1 lf) (nI g) lf))), some (.int (nI lf))] [.int y] := by
        rintro y (⟨rfl, hz⟩ | ⟨rfl, hz⟩)
        · refine V_ald0 dL_kept_681 ?_
          refine V_ild14 dL_kept_682 ?_
          refine V_ch2R (Y' := Y_L_longest) ml_L_126 ch_L_longest dL_kept_684 ((k_longest hO _).val Lq) (by decide) (by decide) (by first | decide | (show _ ≤ 900; dsimp only; omega)) (by first | decide | (show _ ≤ 5400; dsimp only; omega)) (Nat.le_of_ble_eq_true rfl) ?_
          refine V_lconst (v := 0) dL_kept_687 (by decide) ?_
          refine V_zf_ne (tgt := 696) dL_kept_688 dL_kept_689 (by decide) (by rw [lq2.mpr hz]; rfl) ?_
          refine V_iconst (v := 1) dL_kept_692 (by decide) ?_
          refine V_goto (tgt := 697) dL_kept_693 (by decide) ?_
          refine V_yf_ne (tgt := 704) dL_kept_697 (by decide) (rfl) ?_
          refine V_iconst (v := 1) dL_kept_700 (by decide) ?_
          refine V_goto (tgt := 705) dL_kept_701 (by decide) ?_
          refine V_widen (k := 122 + 65 * (g + 1)) (n := 732 + 390 * (g + 1)) (by dsimp only; omega) (by dsimp only; omega) s705
        · refine V_ald0 dL_kept_681 ?_
          refine V_ild14 dL_kept_682 ?_
          refine V_ch2R (Y' := Y_L_longest) ml_L_126 ch_L_longest dL_kept_684 ((k_longest hO _).val Lq) (by decide) (by decide) (by first | decide | (show _ ≤ 900; dsimp only; omega)) (by first | decide | (show _ ≤ 5400; dsimp only; omega)) (Nat.le_of_ble_eq_true rfl) ?_
          refine V_lconst (v := 0) dL_kept_687 (by decide) ?_
          refine V_zt_ne (tgt := 696) dL_kept_688 dL_kept_689 (by decide) (fun q => hz (lq2.mp ((lN_eq (b := 0) (by omega) (by decide)).mp q))) ?_
          refine V_iconst (v := 0) dL_kept_696 (by decide) ?_
          refine V_yf_ne (tgt := 704) dL_kept_697 (by decide) (rfl) ?_
          refine V_iconst (v := 1) dL_kept_700 (by decide) ?_
          refine V_goto (tgt := 705) dL_kept_701 (by decide) ?_
          refine V_widen (k := 122 + 65 * (g + 1)) (n := 732 + 390 * (g + 1)) (by dsimp only; omega) (by dsimp only; omega) s705
      have s644 : V E l Y_L_kept (xQm E Y_L_kept (xJV (.int 1) S o n K G M L) xF) (false, n, K, G, M, L) (122 + 65 * g + 62, 732 + 390 * g + 372) 644 [some (.ref o), some (.long (lN (nS c 4))), none, some (.int 1), some (.int 1), some (.long (lN (nS p 8))), none, some (.long (lN (nS f 8))), none, some (.long (lN (nS m 8))), none, some (.int (nI lf)), some (.long (lN (nS (fun i => nC (tr S.2.2.1 lf) (nI i) lf) (g + 1)))), none, some (.int (nI g)), some (.int (nI (nC (tr S.2.2.1 lf) (nI g) lf))), some (.int (nI lf))] [] := by
        refine V_ald0 dL_kept_644 ?_
        refine V_iconst (v := 1) dL_kept_645 (by decide) ?_
        refine V_ild14 dL_kept_646 ?_
        refine V_ch3R (Y' := Y_L_pattern) ml_L_128 ch_L_pattern dL_kept_648 ((k_pattern hO _ _).val (fPat e47 hlf hg4)) (by decide) (by decide) (by first | decide | (show _ ≤ 900; dsimp only; omega)) (by first | decide | (show _ ≤ 5400; dsimp only; omega)) (Nat.le_of_ble_eq_true rfl) ?_
        refine V_ild15 dL_kept_651 ?_
        refine V_i2l dL_kept_653 ?_
        refine V_zf_ne (tgt := 704) dL_kept_654 dL_kept_655 (by decide) ((nI_l (by omega)).symm) ?_
        refine V_ald0 dL_kept_658 ?_
        refine V_ild14 dL_kept_659 ?_
        refine V_ch2R (Y' := Y_L_longest) ml_L_126 ch_L_longest dL_kept_661 ((k_longest hO _).val Lq) (by decide) (by decide) (by first | decide | (show _ ≤ 900; dsimp only; omega)) (by first | decide | (show _ ≤ 5400; dsimp only; omega)) (Nat.le_of_ble_eq_true rfl) ?_
        refine V_ild15 dL_kept_664 ?_
        refine V_i2l dL_kept_666 ?_
        refine V_zf_gt (tgt := 704) dL_kept_667 dL_kept_668 (by decide) (by rw [nI_l (by omega)]; exact lNle lq1 (by omega)) ?_
        refine V_ild15 dL_kept_671 ?_
        refine V_if_ne (tgt := 680) dL_kept_673 (by decide) (fun h673 => ?_) (fun h673 => ?_)
        · refine V_iconst (v := 0) dL_kept_680 (by decide) ?_
          first
          | exact s681 _ (Or.inl ⟨rfl, (nI_eq (b := 0) (by omega) (by decide)).mp h673⟩)
          | exact s681 _ (Or.inr ⟨rfl, fun q => h673 (by rw [q]; rfl)⟩)
        · refine V_iconst (v := 1) dL_kept_676 (by decide) ?_
          refine V_goto (tgt := 681) dL_kept_677 (by decide) ?_
          first
          | exact s681 _ (Or.inl ⟨rfl, (nI_eq (b := 0) (by omega) (by decide)).mp h673⟩)
          | exact s681 _ (Or.inr ⟨rfl, fun q => h673 (by rw [q]; rfl)⟩)
      have s598 : V E l Y_L_kept (xQm E Y_L_kept (xJV (.int 1) S o n K G M L) xF) (false, n, K, G, M, L) (122 + 65 * g + 60, 732 + 390 * g + 360) 598 [some (.ref o), some (.long (lN (nS c 4))), none, some (.int 1), some (.int 1), some (.long (lN (nS p 8))), none, some (.long (lN (nS f 8))), none, some (.long (lN (nS m 8))), none, some (.int (nI lf)), some (.long (lN (nS (fun i => nC (tr S.2.2.1 lf) (nI i) lf) g))), none, some (.int (nI g)), some (.int (nI (nC (tr S.2.2.1 lf) (nI g) lf))), some (.int (nI lf))] [] := by
        refine V_lld12 dL_kept_598 ?_
        refine V_ild15 dL_kept_600 ?_
        refine V_i2l dL_kept_602 ?_
        rw [nI_l (by omega)]
        refine V_ladd dL_kept_603 ?_
        rw [lN_add]
        refine V_lst12 dL_kept_604 rfl (by decide) ?_
        refine V_ild15 dL_kept_606 ?_
        refine V_i2l dL_kept_608 ?_
        rw [nI_l (by omega)]
        refine V_ald0 dL_kept_609 ?_
        refine V_iconst (v := 2) dL_kept_610 (by decide) ?_
        refine V_ild14 dL_kept_611 ?_
        refine V_iadd dL_kept_613 ?_
        refine V_ch2R (Y' := Y_L_about) ml_L_104 ch_L_about dL_kept_614 ((k_about hO _).val (fA2 ha hg4)) (by decide) (by decide) (by first | decide | (show _ ≤ 900; dsimp only; omega)) (by first | decide | (show _ ≤ 5400; dsimp only; omega)) (Nat.le_of_ble_eq_true rfl) ?_
        refine V_zf_gt (tgt := 704) dL_kept_617 dL_kept_618 (by decide) (lNle mg (by omega)) ?_
        refine V_lld1 dL_kept_621 ?_
        refine V_ldc2 dL_kept_622 mk_L_166 ?_
        refine V_lb_gt (tgt := 644) dL_kept_625 dL_kept_626 (by decide) (fun h626 => ?_) (fun h626 => ?_)
        · refine V_widen (k := 122 + 65 * g + 62) (n := 732 + 390 * g + 372) (by dsimp only; omega) (by dsimp only; omega) s644
        · refine V_ild15 dL_kept_629 ?_
          refine V_i2l dL_kept_631 ?_
          rw [nI_l (by omega)]
          refine V_ald0 dL_kept_632 ?_
          refine V_iconst (v := 2) dL_kept_633 (by decide) ?_
          refine V_ild14 dL_kept_634 ?_
          refine V_iadd dL_kept_636 ?_
          refine V_ch2R (Y' := Y_L_about) ml_L_104 ch_L_about dL_kept_637 ((k_about hO _).val (fA2 ha hg4)) (by decide) (by decide) (by first | decide | (show _ ≤ 900; dsimp only; omega)) (by first | decide | (show _ ≤ 5400; dsimp only; omega)) (Nat.le_of_ble_eq_true rfl) ?_
          refine V_zf_ne (tgt := 704) dL_kept_640 dL_kept_641 (by decide) (congrArg lN (by rw [elf]; exact fCntE ha (Nat.not_lt.mp fun q => h626 ((lN_lt (a := 60) (by decide) (by omega)).mpr q)) hg4)) ?_
          refine V_widen (k := 122 + 65 * g + 62) (n := 732 + 390 * g + 372) (by dsimp only; omega) (by dsimp only; omega) s644
      have inn : ∀ (e k : Nat), k + e = lf → V E l Y_L_kept (xQm E Y_L_kept (xJV (.int 1) S o n K G M L) xF) (false, n, K, G, M, L) (122 + 65 * g + k, 732 + 390 * g + 6 * k) 562 [some (.ref o), some (.long (lN (nS c 4))), none, some (.int 1), some (.int 1), some (.long (lN (nS p 8))), none, some (.long (lN (nS f 8))), none, some (.long (lN (nS m 8))), none, some (.int (nI lf)), some (.long (lN (nS (fun i => nC (tr S.2.2.1 lf) (nI i) lf) g))), none, some (.int (nI g)), some (.int (nI (nC (tr S.2.2.1 lf) (nI g) k))), some (.int (nI k))] [] := by
        intro e
        induction e with
        | zero =>
          intro k hk
          have ek : k = lf := by omega
          subst ek
          refine V_ild16 dL_kept_562 ?_
          refine V_ild11 dL_kept_564 ?_
          refine V_yt_ge (tgt := 598) dL_kept_566 (by decide) (Int32.lt_irrefl) ?_
          refine V_widen (k := 122 + 65 * g + 60) (n := 732 + 390 * g + 360) (by dsimp only; omega) (by dsimp only; omega) s598
        | succ e ih2 =>
          intro k hk
          refine V_ild16 dL_kept_562 ?_
          refine V_ild11 dL_kept_564 ?_
          refine V_yf_ge (tgt := 598) dL_kept_566 (by decide) (nI_lt (by omega) (by omega)) ?_
          refine V_ild15 dL_kept_569 ?_
          refine V_ald0 dL_kept_571 ?_
          refine V_ild16 dL_kept_572 ?_
          refine V_ch2R (Y' := Y_L_fate) ml_L_116 ch_L_fate dL_kept_574 ((k_fate hO _).val ((fFate e47 hlf (by omega)).trans (if_pos (by omega)))) (by decide) (by decide) (by first | decide | (show _ ≤ 900; dsimp only; omega)) (by first | decide | (show _ ≤ 5400; dsimp only; omega)) (Nat.le_of_ble_eq_true rfl) ?_
          refine V_ild14 dL_kept_577 ?_
          refine V_i2l dL_kept_579 ?_
          refine V_lb_ne (tgt := 588) dL_kept_580 dL_kept_581 (by decide) (fun h581 => ?_) (fun h581 => ?_)
          · refine V_iconst (v := 0) dL_kept_588 (by decide) ?_
            refine V_iadd dL_kept_589 ?_
            first
            | rw [nC_y (g := tr S.2.2.1 lf) (k := k) (i64_inj h581)]
            | rw [nC_n (g := tr S.2.2.1 lf) (k := k) (v := nI g) (fun q => h581 (congrArg Int32.toInt64 q))]
            refine V_ist15 dL_kept_590 rfl (by decide) ?_
            refine V_inc16 dL_kept_592 rfl (nI_1 _) ?_
            refine V_goto (tgt := 562) dL_kept_595 (by decide) ?_
            exact ih2 (k + 1) (by omega)
          · refine V_iconst (v := 1) dL_kept_584 (by decide) ?_
            refine V_goto (tgt := 589) dL_kept_585 (by decide) ?_
            refine V_iadd dL_kept_589 ?_
            first
            | rw [nC_y (g := tr S.2.2.1 lf) (k := k) (i64_inj h581)]
            | rw [nC_n (g := tr S.2.2.1 lf) (k := k) (v := nI g) (fun q => h581 (congrArg Int32.toInt64 q))]
            refine V_ist15 dL_kept_590 rfl (by decide) ?_
            refine V_inc16 dL_kept_592 rfl (nI_1 _) ?_
            refine V_goto (tgt := 562) dL_kept_595 (by decide) ?_
            exact ih2 (k + 1) (by omega)
      refine V_ild14 dL_kept_545 ?_
      refine V_iconst (v := 4) dL_kept_547 (by decide) ?_
      refine V_yf_ge (tgt := 713) dL_kept_548 (by decide) (nI_lt (b := 4) (by omega) (by decide)) ?_
      refine V_ild4 dL_kept_551 ?_
      refine V_xf_eq (tgt := 713) dL_kept_553 (by decide) (by decide) ?_
      refine V_iconst (v := 0) dL_kept_556 (by decide) ?_
      refine V_ist15 dL_kept_557 rfl (by decide) ?_
      refine V_iconst (v := 0) dL_kept_559 (by decide) ?_
      refine V_ist16 dL_kept_560 rfl (by decide) ?_
      exact inn lf 0 (by omega)
  have s528 : V E l Y_L_kept (xQm E Y_L_kept (xJV (.int 1) S o n K G M L) xF) (false, n, K, G, M, L) (121, 726) 528 [some (.ref o), some (.long (lN (nS c 4))), none, some (.int 1), some (.int 1), some (.long (lN (nS p 8))), none, some (.long (lN (nS f 8))), none, some (.long (lN (nS m 8))), none, some (.int (nI 8)), none, none, none, none, none] [.int 1] := by
    refine V_ist4 dL_kept_528 rfl (by decide) ?_
    refine V_ald0 dL_kept_530 ?_
    refine V_bipush (v := 10) dL_kept_531 (by decide) ?_
    refine V_ch2R (Y' := Y_L_about) ml_L_104 ch_L_about dL_kept_533 ((k_about hO _).val A10) (by decide) (by decide) (by first | decide | (show _ ≤ 900; dsimp only; omega)) (by first | decide | (show _ ≤ 5400; dsimp only; omega)) (Nat.le_of_ble_eq_true rfl) ?_
    refine V_l2i dL_kept_536 ?_
    rw [lN_i]
    refine V_ist11 dL_kept_537 rfl (by decide) ?_
    refine V_lconst (v := 0) dL_kept_539 (by decide) ?_
    refine V_lst12 dL_kept_540 rfl (by decide) ?_
    refine V_iconst (v := 0) dL_kept_542 (by decide) ?_
    refine V_ist14 dL_kept_543 rfl (by decide) ?_
    exact l3 4 0 _ _ (by omega)
  have s292 : V E l Y_L_kept (xQm E Y_L_kept (xJV (.int 1) S o n K G M L) xF) (false, n, K, G, M, L) (104, 624) 292 [some (.ref o), some (.long (lN (nS c 4))), none, some (.int 1), some (.int 1), some (.long (lN (nS p 8))), none, some (.long (lN (nS f 8))), none, some (.long (lN (nS m 8))), none, some (.int (nI 8)), none, none, none, none, none] [] := by
    refine V_ild4 dL_kept_292 ?_
    refine V_xf_eq (tgt := 414) dL_kept_294 (by decide) (by decide) ?_
    refine V_ald0 dL_kept_297 ?_
    refine V_bipush (v := 6) dL_kept_298 (by decide) ?_
    refine V_ch2R (Y' := Y_L_about) ml_L_104 ch_L_about dL_kept_300 ((k_about hO _).val (fA6 hb (by omega)).1) (by decide) (by decide) (by first | decide | (show _ ≤ 900; dsimp only; omega)) (by first | decide | (show _ ≤ 5400; dsimp only; omega)) (Nat.le_of_ble_eq_true rfl) ?_
    refine V_lld5 dL_kept_303 ?_
    refine V_zf_ne (tgt := 414) dL_kept_305 dL_kept_306 (by decide) (rfl) ?_
    refine V_ald0 dL_kept_309 ?_
    refine V_bipush (v := 7) dL_kept_310 (by decide) ?_
    refine V_ch2R (Y' := Y_L_about) ml_L_104 ch_L_about dL_kept_312 ((k_about hO _).val (fA6 hb (by omega)).2) (by decide) (by decide) (by first | decide | (show _ ≤ 900; dsimp only; omega)) (by first | decide | (show _ ≤ 5400; dsimp only; omega)) (Nat.le_of_ble_eq_true rfl) ?_
    refine V_lld7 dL_kept_315 ?_
    refine V_zf_ne (tgt := 414) dL_kept_317 dL_kept_318 (by decide) (rfl) ?_
    refine V_lld5 dL_kept_321 ?_
    refine V_ild3 dL_kept_323 ?_
    refine V_xf_eq (tgt := 331) dL_kept_324 (by decide) (by decide) ?_
    refine V_lconst (v := 1) dL_kept_327 (by decide) ?_
    refine V_goto (tgt := 332) dL_kept_328 (by decide) ?_
    refine V_ladd dL_kept_332 ?_
    refine V_ald0 dL_kept_333 ?_
    refine V_iconst (v := 2) dL_kept_334 (by decide) ?_
    refine V_ch2R (Y' := Y_L_about) ml_L_104 ch_L_about dL_kept_335 ((k_about hO _).val (fA2' ha).1) (by decide) (by decide) (by first | decide | (show _ ≤ 900; dsimp only; omega)) (by first | decide | (show _ ≤ 5400; dsimp only; omega)) (Nat.le_of_ble_eq_true rfl) ?_
    refine V_zf_gt (tgt := 414) dL_kept_338 dL_kept_339 (by decide) (by rw [lN_1]; exact lNle (by omega) (by omega)) ?_
    refine V_lld9 dL_kept_342 ?_
    refine V_ild3 dL_kept_344 ?_
    refine V_xf_eq (tgt := 356) dL_kept_345 (by decide) (by decide) ?_
    refine V_ald0 dL_kept_348 ?_
    refine V_iconst (v := 2) dL_kept_349 (by decide) ?_
    refine V_ch2R (Y' := Y_L_pulse) ml_L_114 ch_L_pulse dL_kept_350 ((k_pulse hO _).val P2) (by decide) (by decide) (by first | decide | (show _ ≤ 900; dsimp only; omega)) (by first | decide | (show _ ≤ 5400; dsimp only; omega)) (Nat.le_of_ble_eq_true rfl) ?_
    refine V_goto (tgt := 357) dL_kept_353 (by decide) ?_
    refine V_ladd dL_kept_357 ?_
    refine V_ald0 dL_kept_358 ?_
    refine V_iconst (v := 2) dL_kept_359 (by decide) ?_
    refine V_ch2R (Y' := Y_L_about) ml_L_104 ch_L_about dL_kept_360 ((k_about hO _).val (fA2' ha).1) (by decide) (by decide) (by first | decide | (show _ ≤ 900; dsimp only; omega)) (by first | decide | (show _ ≤ 5400; dsimp only; omega)) (Nat.le_of_ble_eq_true rfl) ?_
    refine V_ald0 dL_kept_363 ?_
    refine V_iconst (v := 3) dL_kept_364 (by decide) ?_
    refine V_ch2R (Y' := Y_L_about) ml_L_104 ch_L_about dL_kept_365 ((k_about hO _).val (fA2' ha).2) (by decide) (by decide) (by first | decide | (show _ ≤ 900; dsimp only; omega)) (by first | decide | (show _ ≤ 5400; dsimp only; omega)) (Nat.le_of_ble_eq_true rfl) ?_
    refine V_ladd dL_kept_368 ?_
    refine V_zf_gt (tgt := 414) dL_kept_369 dL_kept_370 (by decide) (by rw [lN_add, lN_add]; exact lNle (by omega) (by omega)) ?_
    refine V_ald0 dL_kept_373 ?_
    refine V_iconst (v := 0) dL_kept_374 (by decide) ?_
    refine V_ch2R (Y' := Y_L_rain) ml_L_130 ch_L_rain dL_kept_375 (k_rain hO _) (by decide) (by decide) (by first | decide | (show _ ≤ 900; dsimp only; omega)) (by first | decide | (show _ ≤ 5400; dsimp only; omega)) (Nat.le_of_ble_eq_true rfl) ?_
    refine V_ald0 dL_kept_378 ?_
    refine V_iconst (v := 1) dL_kept_379 (by decide) ?_
    refine V_ch2R (Y' := Y_L_rain) ml_L_130 ch_L_rain dL_kept_380 (k_rain hO _) (by decide) (by decide) (by first | decide | (show _ ≤ 900; dsimp only; omega)) (by first | decide | (show _ ≤ 5400; dsimp only; omega)) (Nat.le_of_ble_eq_true rfl) ?_
    refine V_zf_gt (tgt := 414) dL_kept_383 dL_kept_384 (by decide) (rn.1) ?_
    refine V_ald0 dL_kept_387 ?_
    refine V_iconst (v := 1) dL_kept_388 (by decide) ?_
    refine V_ch2R (Y' := Y_L_rain) ml_L_130 ch_L_rain dL_kept_389 (k_rain hO _) (by decide) (by decide) (by first | decide | (show _ ≤ 900; dsimp only; omega)) (by first | decide | (show _ ≤ 5400; dsimp only; omega)) (Nat.le_of_ble_eq_true rfl) ?_
    refine V_ald0 dL_kept_392 ?_
    refine V_iconst (v := 2) dL_kept_393 (by decide) ?_
    refine V_ch2R (Y' := Y_L_rain) ml_L_130 ch_L_rain dL_kept_394 (k_rain hO _) (by decide) (by decide) (by first | decide | (show _ ≤ 900; dsimp only; omega)) (by first | decide | (show _ ≤ 5400; dsimp only; omega)) (Nat.le_of_ble_eq_true rfl) ?_
    refine V_zf_gt (tgt := 414) dL_kept_397 dL_kept_398 (by decide) (rn.2) ?_
    refine V_ald0 dL_kept_401 ?_
    refine V_cv0R lk_L_118 cc_X5_trueRain dL_kept_402 (by assumption) (c_X5_trueRain hO.2.1 hO.2.2.1) (xFit.mk (by decide) (by decide) (by first | decide | (show _ ≤ 900; dsimp only; omega)) (by first | decide | (show _ ≤ 5400; dsimp only; omega))) rfl rfl (Nat.le_of_ble_eq_true rfl) ?_
    refine V_lld1 dL_kept_405 ?_
    refine V_zf_lt (tgt := 414) dL_kept_406 dL_kept_407 (by decide) (by rw [ha.2.1, nI_l (by omega)]; exact lNle ha.2.2.1 (by omega)) ?_
    refine V_iconst (v := 1) dL_kept_410 (by decide) ?_
    refine V_goto (tgt := 415) dL_kept_411 (by decide) ?_
    refine V_ist4 dL_kept_415 rfl (by decide) ?_
    refine V_ild4 dL_kept_417 ?_
    refine V_xf_eq (tgt := 527) dL_kept_419 (by decide) (by decide) ?_
    refine V_ild3 dL_kept_422 ?_
    refine V_xf_eq (tgt := 499) dL_kept_423 (by decide) (by decide) ?_
    refine V_ald0 dL_kept_426 ?_
    refine V_iconst (v := 0) dL_kept_427 (by decide) ?_
    refine V_ch2R (Y' := Y_L_pulse) ml_L_114 ch_L_pulse dL_kept_428 ((k_pulse hO _).val P0) (by decide) (by decide) (by first | decide | (show _ ≤ 900; dsimp only; omega)) (by first | decide | (show _ ≤ 5400; dsimp only; omega)) (Nat.le_of_ble_eq_true rfl) ?_
    refine V_lconst (v := 0) dL_kept_431 (by decide) ?_
    refine V_zf_lt (tgt := 527) dL_kept_432 dL_kept_433 (by decide) (lNle (b := 0) (Nat.zero_le _) pg1) ?_
    refine V_ald0 dL_kept_436 ?_
    refine V_iconst (v := 1) dL_kept_437 (by decide) ?_
    refine V_ch2R (Y' := Y_L_pulse) ml_L_114 ch_L_pulse dL_kept_438 ((k_pulse hO _).val P1) (by decide) (by decide) (by first | decide | (show _ ≤ 900; dsimp only; omega)) (by first | decide | (show _ ≤ 5400; dsimp only; omega)) (Nat.le_of_ble_eq_true rfl) ?_
    refine V_lconst (v := 1) dL_kept_441 (by decide) ?_
    refine V_zf_lt (tgt := 527) dL_kept_442 dL_kept_443 (by decide) (lNle (b := 1) a1 (by omega)) ?_
    refine V_ald0 dL_kept_446 ?_
    refine V_iconst (v := 1) dL_kept_447 (by decide) ?_
    refine V_ch2R (Y' := Y_L_pulse) ml_L_114 ch_L_pulse dL_kept_448 ((k_pulse hO _).val P1) (by decide) (by decide) (by first | decide | (show _ ≤ 900; dsimp only; omega)) (by first | decide | (show _ ≤ 5400; dsimp only; omega)) (Nat.le_of_ble_eq_true rfl) ?_
    refine V_ldc2 dL_kept_451 mk_L_170 ?_
    refine V_zf_gt (tgt := 527) dL_kept_454 dL_kept_455 (by decide) (lNle (a := 5000) a5 (by decide)) ?_
    refine V_ald0 dL_kept_458 ?_
    refine V_iconst (v := 2) dL_kept_459 (by decide) ?_
    refine V_ch2R (Y' := Y_L_pulse) ml_L_114 ch_L_pulse dL_kept_460 ((k_pulse hO _).val P2) (by decide) (by decide) (by first | decide | (show _ ≤ 900; dsimp only; omega)) (by first | decide | (show _ ≤ 5400; dsimp only; omega)) (Nat.le_of_ble_eq_true rfl) ?_
    refine V_lconst (v := 1) dL_kept_463 (by decide) ?_
    refine V_zf_lt (tgt := 527) dL_kept_464 dL_kept_465 (by decide) (lNle (b := 1) hs.2.1 (by omega)) ?_
    refine V_ald0 dL_kept_468 ?_
    refine V_iconst (v := 3) dL_kept_469 (by decide) ?_
    refine V_ch2R (Y' := Y_L_pulse) ml_L_114 ch_L_pulse dL_kept_470 ((k_pulse hO _).val P3) (by decide) (by decide) (by first | decide | (show _ ≤ 900; dsimp only; omega)) (by first | decide | (show _ ≤ 5400; dsimp only; omega)) (Nat.le_of_ble_eq_true rfl) ?_
    refine V_lconst (v := 0) dL_kept_473 (by decide) ?_
    refine V_lconst (v := 1) dL_kept_474 (by decide) ?_
    refine V_cs3R lk_L_172 cc_L_in dL_kept_475 (c_L_in _ _ _) (xFit.mk (by decide) (by decide) (by first | decide | (show _ ≤ 900; dsimp only; omega)) (by first | decide | (show _ ≤ 5400; dsimp only; omega))) rfl rfl (Nat.le_of_ble_eq_true rfl) ?_
    refine V_xf_eq (tgt := 527) dL_kept_478 (by decide) (by rw [bI0, Decidable.not_not]; exact ⟨lNle (b := 0) (Nat.zero_le _) (by omega), lNle (a := 1) pq1 (by decide)⟩) ?_
    refine V_ald0 dL_kept_481 ?_
    refine V_bipush (v := 8) dL_kept_482 (by decide) ?_
    refine V_ch2R (Y' := Y_L_about) ml_L_104 ch_L_about dL_kept_484 ((k_about hO _).val (fA8 ev (by omega))) (by decide) (by decide) (by first | decide | (show _ ≤ 900; dsimp only; omega)) (by first | decide | (show _ ≤ 5400; dsimp only; omega)) (Nat.le_of_ble_eq_true rfl) ?_
    refine V_ald0 dL_kept_487 ?_
    refine V_iconst (v := 1) dL_kept_488 (by decide) ?_
    refine V_ch2R (Y' := Y_L_pulse) ml_L_114 ch_L_pulse dL_kept_489 ((k_pulse hO _).val P1) (by decide) (by decide) (by first | decide | (show _ ≤ 900; dsimp only; omega)) (by first | decide | (show _ ≤ 5400; dsimp only; omega)) (Nat.le_of_ble_eq_true rfl) ?_
    refine V_zf_gt (tgt := 527) dL_kept_492 dL_kept_493 (by decide) (lNle va (by omega)) ?_
    refine V_goto (tgt := 523) dL_kept_496 (by decide) ?_
    refine V_iconst (v := 1) dL_kept_523 (by decide) ?_
    refine V_goto (tgt := 528) dL_kept_524 (by decide) ?_
    refine V_widen (k := 121) (n := 726) (by decide) (by decide) s528
  have l2 : ∀ e k : Nat, k + e = 8 → V E l Y_L_kept (xQm E Y_L_kept (xJV (.int 1) S o n K G M L) xF) (false, n, K, G, M, L) (8 + 12 * k, 48 + 72 * k) 121 [some (.ref o), some (.long (lN (nS c 4))), none, some (.int 1), some (.int 1), some (.long (lN (nS p k))), none, some (.long (lN (nS f k))), none, some (.long (lN (nS m k))), none, some (.int (nI k)), none, none, none, none, none] [] := by
    intro e
    induction e with
    | zero =>
      intro k hk
      have ek : k = 8 := by omega
      subst ek
      refine V_ild11 dL_kept_121 ?_
      refine V_bipush (v := 8) dL_kept_123 (by decide) ?_
      refine V_yt_ge (tgt := 292) dL_kept_125 (by decide) (by decide) ?_
      exact s292
    | succ e ih =>
      intro k hk
      have hk8 : k < 8 := by omega
      have hmk := hm9 k hk8
      have b2 := fB2 hb hk8 (by omega)
      have b0 := fB0 hb1 hb2 hk8
      obtain ⟨-, -, e5, e6, e7, e8⟩ := bE hb1 hb2 hk8
      obtain ⟨-, -, -, e9, e10⟩ := hb k hk8
      have s229 : V E l Y_L_kept (xQm E Y_L_kept (xJV (.int 1) S o n K G M L) xF) (false, n, K, G, M, L) (8 + 12 * k + 7, 48 + 72 * k + 42) 229 [some (.ref o), some (.long (lN (nS c 4))), none, some (.int 1), some (.int 1), some (.long (lN (nS p (k + 1)))), none, some (.long (lN (nS f (k + 1)))), none, some (.long (lN (nS m (k + 1)))), none, some (.int (nI k)), none, none, none, none, none] [] := by
        refine V_ald0 dL_kept_229 ?_
        refine V_ild11 dL_kept_230 ?_
        refine V_iconst (v := 3) dL_kept_232 (by decide) ?_
        refine V_ch3R (Y' := Y_L_bin) ml_L_111 ch_L_bin dL_kept_233 ((k_bin hO _ _).val b2.2.1) (by decide) (by decide) (by first | decide | (show _ ≤ 900; dsimp only; omega)) (by first | decide | (show _ ≤ 5400; dsimp only; omega)) (Nat.le_of_ble_eq_true rfl) ?_
        refine V_ald0 dL_kept_236 ?_
        refine V_ild11 dL_kept_237 ?_
        refine V_iconst (v := 2) dL_kept_239 (by decide) ?_
        refine V_ch3R (Y' := Y_L_bin) ml_L_111 ch_L_bin dL_kept_240 ((k_bin hO _ _).val b2.1) (by decide) (by decide) (by first | decide | (show _ ≤ 900; dsimp only; omega)) (by first | decide | (show _ ≤ 5400; dsimp only; omega)) (Nat.le_of_ble_eq_true rfl) ?_
        refine V_zf_gt (tgt := 283) dL_kept_243 dL_kept_244 (by decide) (lNle e9 (by omega)) ?_
        refine V_ald0 dL_kept_247 ?_
        refine V_ild11 dL_kept_248 ?_
        refine V_iconst (v := 4) dL_kept_250 (by decide) ?_
        refine V_ch3R (Y' := Y_L_bin) ml_L_111 ch_L_bin dL_kept_251 ((k_bin hO _ _).val b2.2.2) (by decide) (by decide) (by first | decide | (show _ ≤ 900; dsimp only; omega)) (by first | decide | (show _ ≤ 5400; dsimp only; omega)) (Nat.le_of_ble_eq_true rfl) ?_
        refine V_ald0 dL_kept_254 ?_
        refine V_ild11 dL_kept_255 ?_
        refine V_iconst (v := 2) dL_kept_257 (by decide) ?_
        refine V_ch3R (Y' := Y_L_bin) ml_L_111 ch_L_bin dL_kept_258 ((k_bin hO _ _).val b2.1) (by decide) (by decide) (by first | decide | (show _ ≤ 900; dsimp only; omega)) (by first | decide | (show _ ≤ 5400; dsimp only; omega)) (Nat.le_of_ble_eq_true rfl) ?_
        refine V_zf_lt (tgt := 283) dL_kept_261 dL_kept_262 (by decide) (lNle e10 (by omega)) ?_
        refine V_ald0 dL_kept_265 ?_
        refine V_bipush (v := 7) dL_kept_266 (by decide) ?_
        refine V_iconst (v := 1) dL_kept_268 (by decide) ?_
        refine V_ch3R (Y' := Y_L_bin) ml_L_111 ch_L_bin dL_kept_269 ((k_bin hO _ _).val (fB0 hb1 hb2 (k := 7) (by decide)).2) (by decide) (by decide) (by first | decide | (show _ ≤ 900; dsimp only; omega)) (by first | decide | (show _ ≤ 5400; dsimp only; omega)) (Nat.le_of_ble_eq_true rfl) ?_
        refine V_ldc2 dL_kept_272 mk_L_170 ?_
        refine V_zf_ne (tgt := 283) dL_kept_275 dL_kept_276 (by decide) (rfl) ?_
        refine V_iconst (v := 1) dL_kept_279 (by decide) ?_
        refine V_goto (tgt := 284) dL_kept_280 (by decide) ?_
        refine V_ist4 dL_kept_284 rfl (by decide) ?_
        refine V_inc11 dL_kept_286 rfl (nI_1 _) ?_
        refine V_goto (tgt := 121) dL_kept_289 (by decide) ?_
        refine V_widen (k := 8 + 12 * (k + 1)) (n := 48 + 72 * (k + 1)) (by dsimp only; omega) (by dsimp only; omega) (ih (k + 1) (by omega))
      refine V_ild11 dL_kept_121 ?_
      refine V_bipush (v := 8) dL_kept_123 (by decide) ?_
      refine V_yf_ge (tgt := 292) dL_kept_125 (by decide) (nI_lt (b := 8) (by omega) (by decide)) ?_
      refine V_ild4 dL_kept_128 ?_
      refine V_xf_eq (tgt := 292) dL_kept_130 (by decide) (by decide) ?_
      refine V_lld5 dL_kept_133 ?_
      refine V_ald0 dL_kept_135 ?_
      refine V_ild11 dL_kept_136 ?_
      refine V_iconst (v := 2) dL_kept_138 (by decide) ?_
      refine V_ch3R (Y' := Y_L_bin) ml_L_111 ch_L_bin dL_kept_139 ((k_bin hO _ _).val b2.1) (by decide) (by decide) (by first | decide | (show _ ≤ 900; dsimp only; omega)) (by first | decide | (show _ ≤ 5400; dsimp only; omega)) (Nat.le_of_ble_eq_true rfl) ?_
      refine V_ladd dL_kept_142 ?_
      rw [lN_add]
      refine V_lst5 dL_kept_143 rfl (by decide) ?_
      refine V_lld7 dL_kept_145 ?_
      refine V_ald0 dL_kept_147 ?_
      refine V_ild11 dL_kept_148 ?_
      refine V_iconst (v := 3) dL_kept_150 (by decide) ?_
      refine V_ch3R (Y' := Y_L_bin) ml_L_111 ch_L_bin dL_kept_151 ((k_bin hO _ _).val b2.2.1) (by decide) (by decide) (by first | decide | (show _ ≤ 900; dsimp only; omega)) (by first | decide | (show _ ≤ 5400; dsimp only; omega)) (Nat.le_of_ble_eq_true rfl) ?_
      refine V_ladd dL_kept_154 ?_
      rw [lN_add]
      refine V_lst7 dL_kept_155 rfl (by decide) ?_
      refine V_lld9 dL_kept_157 ?_
      refine V_ald0 dL_kept_159 ?_
      refine V_ild11 dL_kept_160 ?_
      refine V_iconst (v := 4) dL_kept_162 (by decide) ?_
      refine V_ch3R (Y' := Y_L_bin) ml_L_111 ch_L_bin dL_kept_163 ((k_bin hO _ _).val b2.2.2) (by decide) (by decide) (by first | decide | (show _ ≤ 900; dsimp only; omega)) (by first | decide | (show _ ≤ 5400; dsimp only; omega)) (Nat.le_of_ble_eq_true rfl) ?_
      refine V_ladd dL_kept_166 ?_
      rw [lN_add]
      refine V_lst9 dL_kept_167 rfl (by decide) ?_
      refine V_ald0 dL_kept_169 ?_
      refine V_ild11 dL_kept_170 ?_
      refine V_iconst (v := 0) dL_kept_172 (by decide) ?_
      refine V_ch3R (Y' := Y_L_bin) ml_L_111 ch_L_bin dL_kept_173 ((k_bin hO _ _).val b0.1) (by decide) (by decide) (by first | decide | (show _ ≤ 900; dsimp only; omega)) (by first | decide | (show _ ≤ 5400; dsimp only; omega)) (Nat.le_of_ble_eq_true rfl) ?_
      refine V_ald0 dL_kept_176 ?_
      refine V_ild11 dL_kept_177 ?_
      refine V_iconst (v := 1) dL_kept_179 (by decide) ?_
      refine V_ch3R (Y' := Y_L_bin) ml_L_111 ch_L_bin dL_kept_180 ((k_bin hO _ _).val b0.2) (by decide) (by decide) (by first | decide | (show _ ≤ 900; dsimp only; omega)) (by first | decide | (show _ ≤ 5400; dsimp only; omega)) (Nat.le_of_ble_eq_true rfl) ?_
      refine V_zf_gt (tgt := 283) dL_kept_183 dL_kept_184 (by decide) (lNle e5 (by omega)) ?_
      refine V_ild11 dL_kept_187 ?_
      refine V_if_ne (tgt := 207) dL_kept_189 (by decide) (fun h189 => ?_) (fun h189 => ?_)
      · refine V_ald0 dL_kept_207 ?_
        refine V_ild11 dL_kept_208 ?_
        refine V_iconst (v := 0) dL_kept_210 (by decide) ?_
        refine V_ch3R (Y' := Y_L_bin) ml_L_111 ch_L_bin dL_kept_211 ((k_bin hO _ _).val b0.1) (by decide) (by decide) (by first | decide | (show _ ≤ 900; dsimp only; omega)) (by first | decide | (show _ ≤ 5400; dsimp only; omega)) (Nat.le_of_ble_eq_true rfl) ?_
        refine V_ald0 dL_kept_214 ?_
        refine V_ild11 dL_kept_215 ?_
        refine V_iconst (v := 1) dL_kept_217 (by decide) ?_
        refine V_isub dL_kept_218 ?_
        have k1 : 1 ≤ k := Nat.pos_of_ne_zero fun q => h189 (by rw [q]; rfl)
        rw [show nI k - 1 = nI (k - 1) from pkSub (b := 1) k1]
        refine V_iconst (v := 1) dL_kept_219 (by decide) ?_
        refine V_ch3R (Y' := Y_L_bin) ml_L_111 ch_L_bin dL_kept_220 ((k_bin hO _ _).val (fB0 hb1 hb2 (k := k - 1) (by omega)).2) (by decide) (by decide) (by first | decide | (show _ ≤ 900; dsimp only; omega)) (by first | decide | (show _ ≤ 5400; dsimp only; omega)) (Nat.le_of_ble_eq_true rfl) ?_
        refine V_lconst (v := 1) dL_kept_223 (by decide) ?_
        refine V_ladd dL_kept_224 ?_
        refine V_zf_ne (tgt := 283) dL_kept_225 dL_kept_226 (by decide) (by rw [e8 (Nat.pos_of_ne_zero fun q => h189 (by rw [q]; rfl)), lN_1]) ?_
        refine V_widen (k := 8 + 12 * k + 7) (n := 48 + 72 * k + 42) (by dsimp only; omega) (by dsimp only; omega) s229
      · refine V_ald0 dL_kept_192 ?_
        refine V_ild11 dL_kept_193 ?_
        refine V_iconst (v := 0) dL_kept_195 (by decide) ?_
        refine V_ch3R (Y' := Y_L_bin) ml_L_111 ch_L_bin dL_kept_196 ((k_bin hO _ _).val b0.1) (by decide) (by decide) (by first | decide | (show _ ≤ 900; dsimp only; omega)) (by first | decide | (show _ ≤ 5400; dsimp only; omega)) (Nat.le_of_ble_eq_true rfl) ?_
        refine V_lconst (v := 0) dL_kept_199 (by decide) ?_
        refine V_zf_ne (tgt := 283) dL_kept_200 dL_kept_201 (by decide) (by rw [e7 ((nI_eq (b := 0) (by omega) (by decide)).mp h189)]; rfl) ?_
        refine V_goto (tgt := 229) dL_kept_204 (by decide) ?_
        refine V_widen (k := 8 + 12 * k + 7) (n := 48 + 72 * k + 42) (by dsimp only; omega) (by dsimp only; omega) s229
  have s98 : ∀ w : Int64, w = lN (min (nS c 4) 40) → V E l Y_L_kept (xQm E Y_L_kept (xJV (.int 1) S o n K G M L) xF) (false, n, K, G, M, L) (8, 48) 98 [some (.ref o), some (.long (lN (nS c 4))), none, some (.int 1), none, none, none, none, none, none, none, none, none, none, none, none, none] [.long w, .long (lN (min (nS c 4) 40))] := by
    intro w ew
    refine V_zf_ne (tgt := 106) dL_kept_98 dL_kept_99 (by decide) (ew.symm) ?_
    refine V_iconst (v := 1) dL_kept_102 (by decide) ?_
    refine V_goto (tgt := 107) dL_kept_103 (by decide) ?_
    refine V_ist4 dL_kept_107 rfl (by decide) ?_
    refine V_lconst (v := 0) dL_kept_109 (by decide) ?_
    refine V_lst5 dL_kept_110 rfl (by decide) ?_
    refine V_lconst (v := 0) dL_kept_112 (by decide) ?_
    refine V_lst7 dL_kept_113 rfl (by decide) ?_
    refine V_lconst (v := 0) dL_kept_115 (by decide) ?_
    refine V_lst9 dL_kept_116 rfl (by decide) ?_
    refine V_iconst (v := 0) dL_kept_118 (by decide) ?_
    refine V_ist11 dL_kept_119 rfl (by decide) ?_
    exact l2 8 0 (by omega)
  have s73 : ∀ w : Int64, w = lN lf → V E l Y_L_kept (xQm E Y_L_kept (xJV (.int 1) S o n K G M L) xF) (false, n, K, G, M, L) (7, 42) 73 [some (.ref o), some (.long (lN (nS c 4))), none, some (.int 1), none, none, none, none, none, none, none, none, none, none, none, none, none] [.long w, .long (lN lf)] := by
    intro w ew
    refine V_zf_ne (tgt := 106) dL_kept_73 dL_kept_74 (by decide) (ew.symm) ?_
    refine V_ald0 dL_kept_77 ?_
    refine V_bipush (v := 9) dL_kept_78 (by decide) ?_
    refine V_ch2R (Y' := Y_L_about) ml_L_104 ch_L_about dL_kept_80 ((k_about hO _).val (fA9 ha)) (by decide) (by decide) (by first | decide | (show _ ≤ 900; dsimp only; omega)) (by first | decide | (show _ ≤ 5400; dsimp only; omega)) (Nat.le_of_ble_eq_true rfl) ?_
    refine V_lld1 dL_kept_83 ?_
    refine V_ldc2 dL_kept_84 mk_L_168 ?_
    refine V_lb_ge (tgt := 95) dL_kept_87 dL_kept_88 (by decide) (fun h88 => ?_) (fun h88 => ?_)
    · refine V_ldc2 dL_kept_95 mk_L_168 ?_
      first
      | exact s98 _ (by rw [Nat.min_eq_right (Nat.not_lt.mp fun q => h88 ((lN_lt (b := 40) (by omega) (by decide)).mpr q))]; rfl)
      | exact s98 _ (by rw [Nat.min_eq_left (Nat.le_of_lt ((lN_lt (b := 40) (by omega) (by decide)).mp h88))])
    · refine V_lld1 dL_kept_91 ?_
      refine V_goto (tgt := 98) dL_kept_92 (by decide) ?_
      first
      | exact s98 _ (by rw [Nat.min_eq_right (Nat.not_lt.mp fun q => h88 ((lN_lt (b := 40) (by omega) (by decide)).mpr q))]; rfl)
      | exact s98 _ (by rw [Nat.min_eq_left (Nat.le_of_lt ((lN_lt (b := 40) (by omega) (by decide)).mp h88))])
  have s25 : V E l Y_L_kept (xQm E Y_L_kept (xJV (.int 1) S o n K G M L) xF) (false, n, K, G, M, L) (4, 24) 25 [some (.ref o), some (.long (lN (nS c 4))), none, some (.int (nI 4)), none, none, none, none, none, none, none, none, none, none, none, none, none] [] := by
    refine V_ald0 dL_kept_25 ?_
    refine V_bipush (v := 11) dL_kept_26 (by decide) ?_
    refine V_ch2R (Y' := Y_L_about) ml_L_104 ch_L_about dL_kept_28 ((k_about hO _).val fA11) (by decide) (by decide) (by first | decide | (show _ ≤ 900; dsimp only; omega)) (by first | decide | (show _ ≤ 5400; dsimp only; omega)) (Nat.le_of_ble_eq_true rfl) ?_
    refine V_lconst (v := 1) dL_kept_31 (by decide) ?_
    refine V_zf_ne (tgt := 40) dL_kept_32 dL_kept_33 (by decide) (by rw [h13]; decide) ?_
    refine V_iconst (v := 1) dL_kept_36 (by decide) ?_
    refine V_goto (tgt := 41) dL_kept_37 (by decide) ?_
    refine V_ist3 dL_kept_41 rfl (by decide) ?_
    refine V_lld1 dL_kept_42 ?_
    refine V_ald0 dL_kept_43 ?_
    refine V_iconst (v := 1) dL_kept_44 (by decide) ?_
    refine V_ch2R (Y' := Y_L_about) ml_L_104 ch_L_about dL_kept_45 ((k_about hO _).val (fA1 ha)) (by decide) (by decide) (by first | decide | (show _ ≤ 900; dsimp only; omega)) (by first | decide | (show _ ≤ 5400; dsimp only; omega)) (Nat.le_of_ble_eq_true rfl) ?_
    refine V_zf_ne (tgt := 106) dL_kept_48 dL_kept_49 (by decide) (rfl) ?_
    refine V_ald0 dL_kept_52 ?_
    refine V_bipush (v := 10) dL_kept_53 (by decide) ?_
    refine V_ch2R (Y' := Y_L_about) ml_L_104 ch_L_about dL_kept_55 ((k_about hO _).val A10) (by decide) (by decide) (by first | decide | (show _ ≤ 900; dsimp only; omega)) (by first | decide | (show _ ≤ 5400; dsimp only; omega)) (Nat.le_of_ble_eq_true rfl) ?_
    refine V_lld1 dL_kept_58 ?_
    refine V_ldc2 dL_kept_59 mk_L_166 ?_
    refine V_lb_ge (tgt := 70) dL_kept_62 dL_kept_63 (by decide) (fun h63 => ?_) (fun h63 => ?_)
    · refine V_ldc2 dL_kept_70 mk_L_166 ?_
      first
      | exact s73 _ (by rw [elf, Nat.min_eq_right (Nat.not_lt.mp fun q => h63 ((lN_lt (b := 60) (by omega) (by decide)).mpr q))]; rfl)
      | exact s73 _ (by rw [elf, Nat.min_eq_left (Nat.le_of_lt ((lN_lt (b := 60) (by omega) (by decide)).mp h63))])
    · refine V_lld1 dL_kept_66 ?_
      refine V_goto (tgt := 73) dL_kept_67 (by decide) ?_
      first
      | exact s73 _ (by rw [elf, Nat.min_eq_right (Nat.not_lt.mp fun q => h63 ((lN_lt (b := 60) (by omega) (by decide)).mpr q))]; rfl)
      | exact s73 _ (by rw [elf, Nat.min_eq_left (Nat.le_of_lt ((lN_lt (b := 60) (by omega) (by decide)).mp h63))])
  have l1 : ∀ e k : Nat, k + e = 4 → V E l Y_L_kept (xQm E Y_L_kept (xJV (.int 1) S o n K G M L) xF) (false, n, K, G, M, L) (k, 6 * k) 4 [some (.ref o), some (.long (lN (nS c k))), none, some (.int (nI k)), none, none, none, none, none, none, none, none, none, none, none, none, none] [] := by
    intro e
    induction e with
    | zero =>
      intro k hk
      have ek : k = 4 := by omega
      subst ek
      refine V_ild3 dL_kept_4 ?_
      refine V_iconst (v := 4) dL_kept_5 (by decide) ?_
      refine V_yt_ge (tgt := 25) dL_kept_6 (by decide) (by decide) ?_
      exact s25
    | succ e ih =>
      intro k hk
      refine V_ild3 dL_kept_4 ?_
      refine V_iconst (v := 4) dL_kept_5 (by decide) ?_
      refine V_yf_ge (tgt := 25) dL_kept_6 (by decide) (nI_lt (b := 4) (by omega) (by decide)) ?_
      refine V_lld1 dL_kept_9 ?_
      refine V_ald0 dL_kept_10 ?_
      refine V_iconst (v := 2) dL_kept_11 (by decide) ?_
      refine V_ild3 dL_kept_12 ?_
      refine V_iadd dL_kept_13 ?_
      refine V_ch2R (Y' := Y_L_about) ml_L_104 ch_L_about dL_kept_14 ((k_about hO _).val (fA2 ha (by omega))) (by decide) (by decide) (by first | decide | (show _ ≤ 900; dsimp only; omega)) (by first | decide | (show _ ≤ 5400; dsimp only; omega)) (Nat.le_of_ble_eq_true rfl) ?_
      refine V_ladd dL_kept_17 ?_
      rw [lN_add]
      refine V_lst1 dL_kept_18 rfl (by decide) ?_
      refine V_inc3 dL_kept_19 rfl (nI_1 _) ?_
      refine V_goto (tgt := 4) dL_kept_22 (by decide) ?_
      refine V_widen (k := k + 1) (n := 6 * (k + 1)) (by dsimp only; omega) (by dsimp only; omega) (ih (k + 1) (by omega))
  refine V_lconst (v := 0) dL_kept_0 (by decide) ?_
  refine V_lst1 dL_kept_1 rfl (by decide) ?_
  refine V_iconst (v := 0) dL_kept_2 (by decide) ?_
  refine V_ist3 dL_kept_3 rfl (by decide) ?_
  exact l1 4 0 (by omega)
theorem c_L_kept (hO : OK l n K G M L o S) (hK : KP S.2.2.1) : Con E l Y_L_kept [.ref o] (false, n, K, G, M, L) (xJV (.int 1) S o n K G M L) xF := by
  obtain ⟨⟨b, hb1, hb2⟩, c, r, ha, p, f, m, d, hb, hop⟩ := hK
  rcases hop with ⟨h13, h1, h2⟩ | ⟨h13, -, h3, h4, h5, h6, h7⟩
  · exact c_L_kept0 (d := d) hO hb1 hb2 ha hb h13 ⟨h1, h2⟩
  · exact c_L_kept1 hO hb1 hb2 ha hb h13 ⟨h3, h4, h5, h6, h7⟩
end C83

/-! ===== the law: what follows follows ===== -/
section P88
variable {R : xRow} {T B r k : Nat} {c : Nat → Nat} {S : xSp}
theorem fRestore : lRestore (sMc (sKeep S 1) k) 1 = (S.2.2.1 0).toInt64 ∧ sRestore (sMc (sKeep S 1) k) 1 = sMc (sKeep S 1) 0 := by
  have e : kdRes (sMc (sKeep S 1) k) 1 = 0 := by
    unfold kdRes
    rw [if_neg (by decide), show (1 : Int32).toNatClampNeg = 1 by decide]
    refine if_pos ?_
    show (if 1 = 1 then true else S.2.2.2.2.2.1 1) = true
    rw [if_pos rfl]
  have e2 : (sMc (sKeep S 1) k).2.2.2.2.2.2 1 = S.2.2.1 := by
    show (if 1 = 1 then S.2.2.1 else S.2.2.2.2.2.2 1) = _
    rw [if_pos rfl]
  constructor
  · unfold lRestore
    rw [lC_0 e, show (1 : Int32).toNatClampNeg = 1 by decide, e2]
  · unfold sRestore
    rw [if_pos e, show (1 : Int32).toNatClampNeg = 1 by decide]
    unfold sBack
    rw [e2]
    rfl
theorem fSave : lSave S 1 = (S.2.2.1 0).toInt64 ∧ sSave S 1 = sMc (sKeep S 1) S.2.2.2.1 := by
  have e : kdO 1 0 1 = 0 := by decide
  constructor
  · unfold lSave
    rw [lC_0 e]
  · unfold sSave
    rw [if_pos e, show (1 : Int32).toNatClampNeg = 1 by decide]
    rfl
theorem undo_0 : lUndo (sMc S 0) = cSt ∧ sUndo (sMc S 0) = sMc S 0 := by
  have e : kdUndo (sMc S 0) = 1 := if_pos rfl
  constructor
  · exact lC_1 e
  · exact if_neg (by rw [e]; decide)
theorem WFS.mc (h : WFS S T B) (hk : k ≤ S.2.2.2.1) : WFS (sMc (sKeep S 1) k) T B := by
  have q := h.keep (j := 1)
  exact ⟨q.1, fun i hi => q.2.1 i (Nat.lt_of_lt_of_le hi hk), q.2.2⟩
theorem fDrop {S : xSp} {d z : Nat} (hd : d ≤ 99) (hz : 1 ≤ z ∧ z ≤ 60) : lDrop S (nI d) (nI z) = lN (rDrF S.2.2.1 (nI d) (nI z)) ∧ sDrop S (nI d) (nI z) = sNow (sPush S) (rDr S.2.2.1 (nI d) (nI z)) := by
  have f4 : rDrF S.2.2.1 (nI d) (nI z) < 4 := rFt_lt
  constructor
  · unfold lDrop
    rw [lC_0 (kdFall_0 hd hz), nI_l (by omega)]
  · unfold sDrop
    rw [if_pos (kdFall_0 hd hz)]
theorem lFate_0 : lFate R 0 = (aFate R (R 47).toNatClampNeg 0).toInt64 := by
  unfold lFate
  rw [lC_0 (if_neg (by decide)), show (0 : Int32).toNatClampNeg = 0 by decide]
theorem lAbout_0 : lAbout R 0 = (R 0).toInt64 := by rw [lAbout_v (by decide), show aAbout R 0 = R 0 by simp [aAbout]]
end P88
section C88
variable {E : xEnv} {l : Launch} {n : Nat} {K : xKnd} {G : xRef} {M : xMem} {L : xLng} {o T B : Nat} {S : xSp}
set_option maxRecDepth 100000 in
set_option maxHeartbeats 8000000 in
theorem c_L_follows (hl : l.stackTraces = false) (h : rX n K G o) (hc : CRel M L o S) (hw : WFS S T B) (hT : T ≤ 230000) (hB : B ≤ 390000000) (hK : KP S.2.2.1) {X : Nat} (hX : X < 2 ^ 31) : Con E l Y_L_follows [.ref o, .int (nI X)] (false, n, K, G, M, L) (xJV (.int 1) (sMc (sKeep S 1) 0) o n K G M L) xF := by
  have hx := h.1
  obtain ⟨-, c, r, ha, -⟩ := hK
  have hr9 := ha.2.2.2.1
  have mc14 : S.2.2.2.1 ≤ 14 := by obtain ⟨-, -, -, -, ⟨nx, -, -, -, n4, -⟩, -⟩ := hc; exact n4
  have hrl := hw.1.rlen
  have elr : xLr S.2.2.1 = min (nS c 4) 40 := (nI_eq (by omega) (by omega)).mp (hrl.2.symm.trans ha.2.2.2.2.2.1)
  obtain ⟨t0, e0, ht0⟩ : ∃ t, S.2.2.1 0 = nI t ∧ t ≤ T := by
    obtain ⟨-, -, -, -, -, -, -, -, -, ⟨t0, s0, la, e1, -, -, -, -, e6⟩, -⟩ := hw.1
    exact ⟨t0, e1, e6⟩
  have v0 : (S.2.2.1 0).toInt64 = lN t0 := by rw [e0, nI_l (by omega)]
  obtain ⟨tk, etk⟩ : ∃ tk, tk = if X % 3 = 0 then X / 3 % 100 else X / 3 % 6 := ⟨_, rfl⟩
  have tk9 : tk ≤ 99 := by rw [etk]; split <;> omega
  obtain ⟨sz, esz⟩ : ∃ sz, sz = 1 + X / 300 % 60 := ⟨_, rfl⟩
  have sz9 : 1 ≤ sz ∧ sz ≤ 60 := by omega
  obtain ⟨f, ef⟩ : ∃ f, f = rDrF S.2.2.1 (nI tk) (nI sz) := ⟨_, rfl⟩
  have f4 : f < 4 := by rw [ef]; exact rFt_lt
  have cf := ha.cl.2 f f4
  have z3 : sz * sz * sz ≤ 60 * 60 * 60 := Nat.mul_le_mul (Nat.mul_le_mul sz9.2 sz9.2) sz9.2
  obtain ⟨lv, elv⟩ : ∃ lv, lv = X / 7 % 3000 := ⟨_, rfl⟩
  obtain ⟨qn, q1, q2, q3, q4⟩ := fQuietN (R := S.2.2.1) (v := lv) (by omega)
  obtain ⟨wn, ewn⟩ : ∃ wn, wn = X / 11 % 21 := ⟨_, rfl⟩
  obtain ⟨dm, edm⟩ : ∃ dm, dm = 1 + X / 13 % 9 := ⟨_, rfl⟩
  have nw : nb (nI wn) 0 20 := nb.i (Nat.zero_le _) (by omega)
  have nd : nb (nI dm) 1 9 := nb.i (by omega) (by omega)
  have kw : kdSet 1 (nI wn) = 0 := kdSetW (k := 1) (by decide) nw rfl rfl (by decide)
  have kz : kdSet 1 0 = 0 := by decide
  have kd : kdSet 2 (nI dm) = 0 := kdSetW (k := 2) (by decide) nd rfl rfl (by decide)
  obtain ⟨bw, bw1, bw2⟩ := fBest (R := S.2.2.1) (w := X % 3) (by omega)
  have x3 : nI X - nI X / 3 * 3 = nI (X % 3) := pkR X 3 hX (by decide) (by decide)
  have d3 : nI X / 3 = nI (X / 3) := pkD X 3 hX (by decide) (by decide)
  have x100 : nI (X / 3) - nI (X / 3) / 100 * 100 = nI (X / 3 % 100) := pkR _ 100 (by omega) (by decide) (by decide)
  have x6 : nI (X / 3) - nI (X / 3) / 6 * 6 = nI (X / 3 % 6) := pkR _ 6 (by omega) (by decide) (by decide)
  have d300 : nI X / 300 = nI (X / 300) := pkD X 300 hX (by decide) (by decide)
  have x60 : nI (X / 300) - nI (X / 300) / 60 * 60 = nI (X / 300 % 60) := pkR _ 60 (by omega) (by decide) (by decide)
  have p60 : (1 : Int32) + nI (X / 300 % 60) = nI sz := by rw [esz]; exact nI_add 1 _
  have d7 : nI X / 7 = nI (X / 7) := pkD X 7 hX (by decide) (by decide)
  have x3000 : nI (X / 7) - nI (X / 7) / 3000 * 3000 = nI lv := by rw [elv]; exact pkR _ 3000 (by omega) (by decide) (by decide)
  have d11 : nI X / 11 = nI (X / 11) := pkD X 11 hX (by decide) (by decide)
  have x21 : nI (X / 11) - nI (X / 11) / 21 * 21 = nI wn := by rw [ewn]; exact pkR _ 21 (by omega) (by decide) (by decide)
  have d13 : nI X / 13 = nI (X / 13) := pkD X 13 hX (by decide) (by decide)
  have x9 : nI (X / 13) - nI (X / 13) / 9 * 9 = nI (X / 13 % 9) := pkR _ 9 (by omega) (by decide) (by decide)
  have p9 : (1 : Int32) + nI (X / 13 % 9) = nI dm := by rw [edm]; exact nI_add 1 _
  have okP : ∀ (k : Nat) (M9 : xMem) (L9 : xLng), k ≤ S.2.2.2.1 → CRel M9 L9 o (sMc (sKeep S 1) k) → OK l n K G M9 L9 o (sMc (sKeep S 1) k) := fun k M9 L9 hk c9 => ⟨hl, h, c9, T, B, hw.mc hk, by omega, by omega⟩
  have okD : ∀ (k : Nat) (M9 : xMem) (L9 : xLng) (R' : xRow), k ≤ S.2.2.2.1 → WFr R' (T + 99) (B + 216000) → CRel M9 L9 o (sNow (sPush (sMc (sKeep S 1) k)) R') → OK l n K G M9 L9 o (sNow (sPush (sMc (sKeep S 1) k)) R') := fun k M9 L9 R' hk hR c9 => ⟨hl, h, c9, T + 99, B + 216000, (((hw.mc hk).push).mono (by omega) (by omega)).now hR, by omega, by omega⟩
  have mk : ∀ k, k ≤ S.2.2.2.1 → min (k + 1) 14 - 1 ≤ S.2.2.2.1 ∧ k ≤ 14 := fun k hk => ⟨by omega, by omega⟩
  refine Con.mk 22 mp_L_follows rfl (ls := [some (.ref o), some (.int (nI X)), none, none, none, none, none, none, none, none, none, none, none, none, none, none, none, none, none, none, none, none, none, none]) rfl (Nat.le_of_ble_eq_true rfl) ?_
  have s742 : ∀ (ls q0 pl : Int64) (s17 : Int32), ∀ (k : Nat) (M9 : xMem) (L9 : xLng), k ≤ S.2.2.2.1 → CRel M9 L9 o (sMc (sKeep S 1) k) → Fr o M L M9 L9 → V E l Y_L_follows (xQm E Y_L_follows (xJV (.int 1) (sMc (sKeep S 1) 0) o n K G M L) xF) (false, n, K, G, M9, L9) (1291, 7746) 742 [some (.ref o), some (.int (nI X)), some (.long (aNow S.2.2.1)), none, some (.long (lN t0)), none, some (.int (nI tk)), some (.int (nI sz)), some (.int 1), some (.long (lN f)), none, some (.long (lN (c f))), none, some (.long (lN r)), none, some (.long ls), none, some (.int s17), some (.long q0), none, some (.int (nI wn)), some (.int (nI dm)), some (.long pl), none] [] := by
    intro ls q0 pl s17 k M9 L9 hk c9 f9
    have hO := okP k M9 L9 hk c9
    refine V_ild8 dL_follows_742 ?_
    refine V_xf_eq (tgt := 782) dL_follows_744 (by decide) (by decide) ?_
    refine V_ald0 dL_follows_747 ?_
    refine V_iconst (v := 1) dL_follows_748 (by decide) ?_
    refine V_ch2J (Y' := Y_L_restore) ml_L_162 ch_L_restore dL_follows_749 ((k_restore hO _).jval (fRestore.1.trans v0) fRestore.2) (by decide) (by decide) (by first | decide | (show _ ≤ 2400; dsimp only; omega)) (by first | decide | (show _ ≤ 14400; dsimp only; omega)) (Nat.le_of_ble_eq_true rfl) (fun M8 L8 c8 f8 => ?_)
    have hO8 := okP 0 M8 L8 (Nat.zero_le _) c8
    refine V_lld4 dL_follows_752 ?_
    refine V_zf_ne (tgt := 782) dL_follows_754 dL_follows_755 (by decide) (rfl) ?_
    refine V_ald0 dL_follows_758 ?_
    refine V_cs1RA lk_L_122 cc_L_now dL_follows_759 (c_L_now hO8) (xFit.mk (by decide) (by decide) (by first | decide | (show _ ≤ 2400; dsimp only; omega)) (by first | decide | (show _ ≤ 14400; dsimp only; omega))) (Nat.le_of_ble_eq_true rfl) ?_
    refine V_lld2 dL_follows_762 ?_
    refine V_zf_ne (tgt := 782) dL_follows_763 dL_follows_764 (by decide) (rfl) ?_
    refine V_ald0 dL_follows_767 ?_
    refine V_ch1J (Y' := Y_L_undo) ml_L_190 ch_L_undo dL_follows_768 ((k_undo hO8).jval undo_0.1 undo_0.2) (by decide) (by decide) (by first | decide | (show _ ≤ 2400; dsimp only; omega)) (by first | decide | (show _ ≤ 14400; dsimp only; omega)) (Nat.le_of_ble_eq_true rfl) (fun M7 L7 c7 f7 => ?_)
    refine V_ldc2 dL_follows_771 mk_L_21 ?_
    refine V_zf_ne (tgt := 782) dL_follows_774 dL_follows_775 (by decide) (rfl) ?_
    refine V_iconst (v := 1) dL_follows_778 (by decide) ?_
    refine V_goto (tgt := 783) dL_follows_779 (by decide) ?_
    exact V_zret rfl dL_follows_783 (Or.inr rfl) (by first | decide | (show _ ≤ 2400; dsimp only; omega)) (by first | decide | (show _ ≤ 14400; dsimp only; omega)) ⟨rfl, _, _, rfl, c7, f9.trans (f8.trans f7)⟩
  have s660 : ∀ (ls q0 : Int64) (s17 : Int32), ∀ (k : Nat) (M9 : xMem) (L9 : xLng), k ≤ S.2.2.2.1 → CRel M9 L9 o (sMc (sKeep S 1) k) → Fr o M L M9 L9 → V E l Y_L_follows (xQm E Y_L_follows (xJV (.int 1) (sMc (sKeep S 1) 0) o n K G M L) xF) (false, n, K, G, M9, L9) (1087, 6522) 660 [some (.ref o), some (.int (nI X)), some (.long (aNow S.2.2.1)), none, some (.long (lN t0)), none, some (.int (nI tk)), some (.int (nI sz)), some (.int 1), some (.long (lN f)), none, some (.long (lN (c f))), none, some (.long (lN r)), none, some (.long ls), none, some (.int s17), some (.long q0), none, some (.int (nI wn)), some (.int (nI dm)), none, none] [.int 1] := by
    intro ls q0 s17 k M9 L9 hk c9 f9
    have hO := okP k M9 L9 hk c9
    refine V_ist8 dL_follows_660 rfl (by decide) ?_
    refine V_ald0 dL_follows_662 ?_
    refine V_bipush (v := 6) dL_follows_663 (by decide) ?_
    refine V_ch2R (Y' := Y_L_about) ml_L_104 ch_L_about dL_follows_665 ((k_about hO _).val (v' := (rInB S.2.2.1 0).toInt64) (by show lAbout S.2.2.1 6 = _; rw [lAbout_v (by decide), show aAbout S.2.2.1 6 = rInB S.2.2.1 0 by simp [aAbout]])) (by decide) (by decide) (by first | decide | (show _ ≤ 2400; dsimp only; omega)) (by first | decide | (show _ ≤ 14400; dsimp only; omega)) (Nat.le_of_ble_eq_true rfl) ?_
    refine V_lst22 dL_follows_668 rfl (by decide) ?_
    refine V_ild8 dL_follows_670 ?_
    refine V_xf_eq (tgt := 739) dL_follows_672 (by decide) (by decide) ?_
    refine V_ald0 dL_follows_675 ?_
    refine V_cv0J lk_L_196 cc_X5_empty dL_follows_676 (by assumption) (c_X5_empty h c9 (hw.mc hk)) (xFit.mk (by decide) (by decide) (by first | decide | (show _ ≤ 2400; dsimp only; omega)) (by first | decide | (show _ ≤ 14400; dsimp only; omega))) rfl rfl (Nat.le_of_ble_eq_true rfl) (fun M8 L8 c8 f8 => ?_)
    have hE := okD k M8 L8 _ hk (hw.1.emp.mono (by omega) (by omega)) c8
    refine V_i2l dL_follows_679 ?_
    refine V_lld22 dL_follows_680 ?_
    refine V_zf_ne (tgt := 739) dL_follows_682 dL_follows_683 (by decide) (rfl) ?_
    refine V_ald0 dL_follows_686 ?_
    refine V_bipush (v := 6) dL_follows_687 (by decide) ?_
    refine V_ch2R (Y' := Y_L_about) ml_L_104 ch_L_about dL_follows_689 ((k_about hE _).val fEmp.1) (by decide) (by decide) (by first | decide | (show _ ≤ 2400; dsimp only; omega)) (by first | decide | (show _ ≤ 14400; dsimp only; omega)) (Nat.le_of_ble_eq_true rfl) ?_
    refine V_lconst (v := 0) dL_follows_692 (by decide) ?_
    refine V_zf_ne (tgt := 739) dL_follows_693 dL_follows_694 (by decide) (rfl) ?_
    refine V_ald0 dL_follows_697 ?_
    refine V_iconst (v := 2) dL_follows_698 (by decide) ?_
    refine V_ch2R (Y' := Y_L_rain) ml_L_130 ch_L_rain dL_follows_699 ((k_rain hE _).val fEmp.2) (by decide) (by decide) (by first | decide | (show _ ≤ 2400; dsimp only; omega)) (by first | decide | (show _ ≤ 14400; dsimp only; omega)) (Nat.le_of_ble_eq_true rfl) ?_
    refine V_lconst (v := 0) dL_follows_702 (by decide) ?_
    refine V_zf_ne (tgt := 739) dL_follows_703 dL_follows_704 (by decide) (rfl) ?_
    refine V_ald0 dL_follows_707 ?_
    refine V_cv0R lk_L_118 cc_X5_trueRain dL_follows_708 (by assumption) (c_X5_trueRain h c8) (xFit.mk (by decide) (by decide) (by first | decide | (show _ ≤ 2400; dsimp only; omega)) (by first | decide | (show _ ≤ 14400; dsimp only; omega))) rfl rfl (Nat.le_of_ble_eq_true rfl) ?_
    refine V_lld13 dL_follows_711 ?_
    refine V_zf_ne (tgt := 739) dL_follows_713 dL_follows_714 (by decide) (by show (rEmp S.2.2.1 190).toInt64 = _; rw [rEmp_o (by decide), ha.2.1, nI_l (by omega)]) ?_
    refine V_ald0 dL_follows_717 ?_
    refine V_ch1J (Y' := Y_L_undo) ml_L_190 ch_L_undo dL_follows_718 ((k_undo hE).jval (undo_push (mk k hk).2).1 (undo_push (mk k hk).2).2) (by decide) (by decide) (by first | decide | (show _ ≤ 2400; dsimp only; omega)) (by first | decide | (show _ ≤ 14400; dsimp only; omega)) (Nat.le_of_ble_eq_true rfl) (fun M7 L7 c7 f7 => ?_)
    refine V_lconst (v := 0) dL_follows_721 (by decide) ?_
    refine V_zf_lt (tgt := 739) dL_follows_722 dL_follows_723 (by decide) (lNle (b := 0) (Nat.zero_le _) (by omega)) ?_
    have hO7 := okP _ M7 L7 (mk k hk).1 c7
    refine V_ald0 dL_follows_726 ?_
    refine V_cs1RA lk_L_122 cc_L_now dL_follows_727 (c_L_now hO7) (xFit.mk (by decide) (by decide) (by first | decide | (show _ ≤ 2400; dsimp only; omega)) (by first | decide | (show _ ≤ 14400; dsimp only; omega))) (Nat.le_of_ble_eq_true rfl) ?_
    refine V_lld2 dL_follows_730 ?_
    refine V_zf_ne (tgt := 739) dL_follows_731 dL_follows_732 (by decide) (rfl) ?_
    refine V_iconst (v := 1) dL_follows_735 (by decide) ?_
    refine V_goto (tgt := 740) dL_follows_736 (by decide) ?_
    refine V_ist8 dL_follows_740 rfl (by decide) ?_
    refine V_widen (k := 1291) (n := 7746) (by decide) (by decide) (s742 _ _ _ _ _ M7 L7 (mk k hk).1 c7 (f9.trans (f8.trans f7)))
  have s629 : ∀ (ls q0 : Int64) (s17 : Int32), ∀ (k : Nat) (M9 : xMem) (L9 : xLng), k ≤ S.2.2.2.1 → CRel M9 L9 o (sMc (sKeep S 1) k) → Fr o M L M9 L9 → V E l Y_L_follows (xQm E Y_L_follows (xJV (.int 1) (sMc (sKeep S 1) 0) o n K G M L) xF) (false, n, K, G, M9, L9) (886, 5316) 629 [some (.ref o), some (.int (nI X)), some (.long (aNow S.2.2.1)), none, some (.long (lN t0)), none, some (.int (nI tk)), some (.int (nI sz)), some (.int 1), some (.long (lN f)), none, some (.long (lN (c f))), none, some (.long (lN r)), none, some (.long ls), none, some (.int s17), some (.long q0), none, some (.int (nI wn)), some (.int (nI dm)), none, none] [] := by
    intro ls q0 s17 k M9 L9 hk c9 f9
    have hO := okP k M9 L9 hk c9
    refine V_ald0 dL_follows_629 ?_
    refine V_ild1 dL_follows_630 ?_
    refine V_iconst (v := 3) dL_follows_631 (by decide) ?_
    refine V_irem dL_follows_632 (by decide) ?_
    rw [x3]
    refine V_ch2J (Y' := Y_L_bestWindow) ml_L_149 ch_L_bestWindow dL_follows_633 ((k_bestWindow hO _).jval bw2 rfl) (by decide) (by decide) (by first | decide | (show _ ≤ 2400; dsimp only; omega)) (by first | decide | (show _ ≤ 14400; dsimp only; omega)) (Nat.le_of_ble_eq_true rfl) (fun M9 L9 c9 f8 => ?_)
    have hO := hO.go c9
    have f9 := f9.trans f8
    refine V_lconst (v := 0) dL_follows_636 (by decide) ?_
    refine V_ldc2 dL_follows_637 mk_L_194 ?_
    refine V_cs3R lk_L_172 cc_L_in dL_follows_640 (c_L_in _ _ _) (xFit.mk (by decide) (by decide) (by first | decide | (show _ ≤ 2400; dsimp only; omega)) (by first | decide | (show _ ≤ 14400; dsimp only; omega))) rfl rfl (Nat.le_of_ble_eq_true rfl) ?_
    refine V_xf_eq (tgt := 659) dL_follows_643 (by decide) (by rw [bI0, Decidable.not_not]; exact ⟨lNle (b := 0) (Nat.zero_le _) (by omega), lNle (a := 20) bw1 (by decide)⟩) ?_
    refine V_ald0 dL_follows_646 ?_
    refine V_cs1RA lk_L_122 cc_L_now dL_follows_647 (c_L_now hO) (xFit.mk (by decide) (by decide) (by first | decide | (show _ ≤ 2400; dsimp only; omega)) (by first | decide | (show _ ≤ 14400; dsimp only; omega))) (Nat.le_of_ble_eq_true rfl) ?_
    refine V_lld2 dL_follows_650 ?_
    refine V_zf_ne (tgt := 659) dL_follows_651 dL_follows_652 (by decide) (rfl) ?_
    refine V_iconst (v := 1) dL_follows_655 (by decide) ?_
    refine V_goto (tgt := 660) dL_follows_656 (by decide) ?_
    refine V_widen (k := 1087) (n := 6522) (by decide) (by decide) (s660 _ _ _ k _ _ hk hO.2.2.1 f9)
  have s537 : ∀ (ls q0 : Int64) (s17 : Int32), ∀ (k : Nat) (M9 : xMem) (L9 : xLng), k ≤ S.2.2.2.1 → CRel M9 L9 o (sMc (sKeep S 1) k) → Fr o M L M9 L9 → V E l Y_L_follows (xQm E Y_L_follows (xJV (.int 1) (sMc (sKeep S 1) 0) o n K G M L) xF) (false, n, K, G, M9, L9) (880, 5280) 537 [some (.ref o), some (.int (nI X)), some (.long (aNow S.2.2.1)), none, some (.long (lN t0)), none, some (.int (nI tk)), some (.int (nI sz)), some (.int 1), some (.long (lN f)), none, some (.long (lN (c f))), none, some (.long (lN r)), none, some (.long ls), none, some (.int s17), some (.long q0), none, none, none, none, none] [] := by
    intro ls q0 s17 k M9 L9 hk c9 f9
    have hO := okP k M9 L9 hk c9
    refine V_ild1 dL_follows_537 ?_
    refine V_bipush (v := 11) dL_follows_538 (by decide) ?_
    refine V_idiv dL_follows_540 (by decide) ?_
    refine V_bipush (v := 21) dL_follows_541 (by decide) ?_
    refine V_irem dL_follows_543 (by decide) ?_
    rw [d11, x21]
    refine V_ist20 dL_follows_544 rfl (by decide) ?_
    refine V_iconst (v := 1) dL_follows_546 (by decide) ?_
    refine V_ild1 dL_follows_547 ?_
    refine V_bipush (v := 13) dL_follows_548 (by decide) ?_
    refine V_idiv dL_follows_550 (by decide) ?_
    refine V_bipush (v := 9) dL_follows_551 (by decide) ?_
    refine V_irem dL_follows_553 (by decide) ?_
    refine V_iadd dL_follows_554 ?_
    rw [d13, x9, p9]
    refine V_ist21 dL_follows_555 rfl (by decide) ?_
    refine V_ild8 dL_follows_557 ?_
    refine V_xf_eq (tgt := 659) dL_follows_559 (by decide) (by decide) ?_
    refine V_ald0 dL_follows_562 ?_
    refine V_ild20 dL_follows_563 ?_
    refine V_ild21 dL_follows_565 ?_
    refine V_iconst (v := 0) dL_follows_567 (by decide) ?_
    refine V_ch4J (Y' := Y_L_replay) ml_L_146 ch_L_replay dL_follows_568 ((k_replay hO _ _ _).jval (fRep (i := 0) kw kd (by decide) hrl.1) rfl) (by decide) (by decide) (by first | decide | (show _ ≤ 2400; dsimp only; omega)) (by first | decide | (show _ ≤ 14400; dsimp only; omega)) (Nat.le_of_ble_eq_true rfl) (fun M9 L9 c9 f8 => ?_)
    have hO := hO.go c9
    have f9 := f9.trans f8
    refine V_ald0 dL_follows_571 ?_
    refine V_ild20 dL_follows_572 ?_
    refine V_ild21 dL_follows_574 ?_
    refine V_iconst (v := 1) dL_follows_576 (by decide) ?_
    refine V_ch4J (Y' := Y_L_replay) ml_L_146 ch_L_replay dL_follows_577 ((k_replay hO _ _ _).jval (fRep (i := 1) kw kd (by decide) hrl.1) rfl) (by decide) (by decide) (by first | decide | (show _ ≤ 2400; dsimp only; omega)) (by first | decide | (show _ ≤ 14400; dsimp only; omega)) (Nat.le_of_ble_eq_true rfl) (fun M9 L9 c9 f8 => ?_)
    have hO := hO.go c9
    have f9 := f9.trans f8
    refine V_ladd dL_follows_580 ?_
    refine V_ald0 dL_follows_581 ?_
    refine V_ild20 dL_follows_582 ?_
    refine V_ild21 dL_follows_584 ?_
    refine V_iconst (v := 2) dL_follows_586 (by decide) ?_
    refine V_ch4J (Y' := Y_L_replay) ml_L_146 ch_L_replay dL_follows_587 ((k_replay hO _ _ _).jval (fRep (i := 2) kw kd (by decide) hrl.1) rfl) (by decide) (by decide) (by first | decide | (show _ ≤ 2400; dsimp only; omega)) (by first | decide | (show _ ≤ 14400; dsimp only; omega)) (Nat.le_of_ble_eq_true rfl) (fun M9 L9 c9 f8 => ?_)
    have hO := hO.go c9
    have f9 := f9.trans f8
    refine V_ladd dL_follows_590 ?_
    refine V_ald0 dL_follows_591 ?_
    refine V_ild20 dL_follows_592 ?_
    refine V_ild21 dL_follows_594 ?_
    refine V_iconst (v := 3) dL_follows_596 (by decide) ?_
    refine V_ch4J (Y' := Y_L_replay) ml_L_146 ch_L_replay dL_follows_597 ((k_replay hO _ _ _).jval (fRep (i := 3) kw kd (by decide) hrl.1) rfl) (by decide) (by decide) (by first | decide | (show _ ≤ 2400; dsimp only; omega)) (by first | decide | (show _ ≤ 14400; dsimp only; omega)) (Nat.le_of_ble_eq_true rfl) (fun M9 L9 c9 f8 => ?_)
    have hO := hO.go c9
    have f9 := f9.trans f8
    refine V_ladd dL_follows_600 ?_
    refine V_ald0 dL_follows_601 ?_
    refine V_bipush (v := 9) dL_follows_602 (by decide) ?_
    refine V_ch2R (Y' := Y_L_about) ml_L_104 ch_L_about dL_follows_604 ((k_about hO _).val (fA9 ha)) (by decide) (by decide) (by first | decide | (show _ ≤ 2400; dsimp only; omega)) (by first | decide | (show _ ≤ 14400; dsimp only; omega)) (Nat.le_of_ble_eq_true rfl) ?_
    refine V_zf_ne (tgt := 659) dL_follows_607 dL_follows_608 (by decide) (by rw [lN_add, lN_add, lN_add, ← elr]; exact congrArg lN (fRep4 _)) ?_
    refine V_ild20 dL_follows_611 ?_
    refine V_if_gt (tgt := 629) dL_follows_613 (by decide) (fun h613 => ?_) (fun h613 => ?_)
    · refine V_widen (k := 886) (n := 5316) (by decide) (by decide) (s629 _ _ _ k _ _ hk hO.2.2.1 f9)
    · refine V_ald0 dL_follows_616 ?_
      refine V_iconst (v := 0) dL_follows_617 (by decide) ?_
      refine V_ild21 dL_follows_618 ?_
      refine V_iconst (v := 1) dL_follows_620 (by decide) ?_
      refine V_ch4J (Y' := Y_L_replay) ml_L_146 ch_L_replay dL_follows_621 ((k_replay hO _ _ _).jval ((fRep (i := 1) kz kd (by decide) hrl.1).trans (congrArg lN (fNoMerge hw.1 nd (by omega)))) rfl) (by decide) (by decide) (by first | decide | (show _ ≤ 2400; dsimp only; omega)) (by first | decide | (show _ ≤ 14400; dsimp only; omega)) (Nat.le_of_ble_eq_true rfl) (fun M9 L9 c9 f8 => ?_)
      have hO := hO.go c9
      have f9 := f9.trans f8
      refine V_lconst (v := 0) dL_follows_624 (by decide) ?_
      refine V_zf_ne (tgt := 659) dL_follows_625 dL_follows_626 (by decide) (rfl) ?_
      refine V_widen (k := 886) (n := 5316) (by decide) (by decide) (s629 _ _ _ k _ _ hk hO.2.2.1 f9)
  have s521 : ∀ (ls q0 : Int64) (s17 : Int32), ∀ (k : Nat) (M9 : xMem) (L9 : xLng), k ≤ S.2.2.2.1 → CRel M9 L9 o (sMc (sKeep S 1) k) → Fr o M L M9 L9 → V E l Y_L_follows (xQm E Y_L_follows (xJV (.int 1) (sMc (sKeep S 1) 0) o n K G M L) xF) (false, n, K, G, M9, L9) (680, 4080) 521 [some (.ref o), some (.int (nI X)), some (.long (aNow S.2.2.1)), none, some (.long (lN t0)), none, some (.int (nI tk)), some (.int (nI sz)), some (.int 1), some (.long (lN f)), none, some (.long (lN (c f))), none, some (.long (lN r)), none, some (.long ls), none, some (.int s17), some (.long q0), none, none, none, none, none] [] := by
    intro ls q0 s17 k M9 L9 hk c9 f9
    have hO := okP k M9 L9 hk c9
    refine V_ald0 dL_follows_521 ?_
    refine V_cs1RA lk_L_122 cc_L_now dL_follows_522 (c_L_now hO) (xFit.mk (by decide) (by decide) (by first | decide | (show _ ≤ 2400; dsimp only; omega)) (by first | decide | (show _ ≤ 14400; dsimp only; omega))) (Nat.le_of_ble_eq_true rfl) ?_
    refine V_lld2 dL_follows_525 ?_
    refine V_zf_ne (tgt := 534) dL_follows_526 dL_follows_527 (by decide) (rfl) ?_
    refine V_iconst (v := 1) dL_follows_530 (by decide) ?_
    refine V_goto (tgt := 535) dL_follows_531 (by decide) ?_
    refine V_ist8 dL_follows_535 rfl (by decide) ?_
    refine V_widen (k := 880) (n := 5280) (by decide) (by decide) (s537 _ _ _ k _ _ hk hO.2.2.1 f9)
  have s412 : ∀ (ls : Int64) (s17 : Int32) (o18 o19 : Option Value), ∀ (k : Nat) (M9 : xMem) (L9 : xLng), k ≤ S.2.2.2.1 → CRel M9 L9 o (sMc (sKeep S 1) k) → Fr o M L M9 L9 → V E l Y_L_follows (xQm E Y_L_follows (xJV (.int 1) (sMc (sKeep S 1) 0) o n K G M L) xF) (false, n, K, G, M9, L9) (674, 4044) 412 [some (.ref o), some (.int (nI X)), some (.long (aNow S.2.2.1)), none, some (.long (lN t0)), none, some (.int (nI tk)), some (.int (nI sz)), some (.int 1), some (.long (lN f)), none, some (.long (lN (c f))), none, some (.long (lN r)), none, some (.long ls), none, some (.int s17), o18, o19, none, none, none, none] [] := by
    intro ls s17 o18 o19 k M9 L9 hk c9 f9
    have hO := okP k M9 L9 hk c9
    refine V_ild1 dL_follows_412 ?_
    refine V_bipush (v := 7) dL_follows_413 (by decide) ?_
    refine V_idiv dL_follows_415 (by decide) ?_
    refine V_sipush (v := 3000) dL_follows_416 (by decide) ?_
    refine V_irem dL_follows_419 (by decide) ?_
    rw [d7, x3000]
    refine V_ist17 dL_follows_420 rfl (by decide) ?_
    refine V_ald0 dL_follows_422 ?_
    refine V_ild17 dL_follows_423 ?_
    refine V_ch2R (Y' := Y_L_quietIn) ml_L_144 ch_L_quietIn dL_follows_425 ((k_quietIn hO _).val q2) (by decide) (by decide) (by first | decide | (show _ ≤ 2400; dsimp only; omega)) (by first | decide | (show _ ≤ 14400; dsimp only; omega)) (Nat.le_of_ble_eq_true rfl) ?_
    refine V_lst18 dL_follows_428 rfl (by decide) ?_
    refine V_lld18 dL_follows_430 ?_
    refine V_lconst (v := 0) dL_follows_432 (by decide) ?_
    refine V_lb_le (tgt := 537) dL_follows_433 dL_follows_434 (by decide) (fun h434 => ?_) (fun h434 => ?_)
    · exact V_widen (k := 880) (n := 5280) (by decide) (by decide) (s537 _ _ _ k M9 L9 hk c9 f9)
    · have qp : 0 < qn := (lN_lt (a := 0) (by decide) (by omega)).mp h434
      refine V_lld18 dL_follows_437 ?_
      refine V_ldc2 dL_follows_439 mk_L_192 ?_
      refine V_lb_ge (tgt := 537) dL_follows_442 dL_follows_443 (by decide) (fun h443 => ?_) (fun h443 => ?_)
      · exact V_widen (k := 880) (n := 5280) (by decide) (by decide) (s537 _ _ _ k M9 L9 hk c9 f9)
      · have q99 : qn < 99 := (lN_lt (b := 99) (by omega) (by decide)).mp h443
        refine V_ild8 dL_follows_446 ?_
        refine V_xf_eq (tgt := 537) dL_follows_448 (by decide) (by decide) ?_
        refine V_ald0 dL_follows_451 ?_
        refine V_lld18 dL_follows_452 ?_
        refine V_l2i dL_follows_454 ?_
        rw [lN_i]
        refine V_ch2J (Y' := Y_L_pass) ml_L_134 ch_L_pass dL_follows_455 ((k_pass hO _).jval (fPass qp (by omega)).1 (fPass qp (by omega)).2) (by decide) (by decide) (by first | decide | (show _ ≤ 2400; dsimp only; omega)) (by first | decide | (show _ ≤ 14400; dsimp only; omega)) (Nat.le_of_ble_eq_true rfl) (fun M8 L8 c8 f8 => ?_)
        have hG := okD k M8 L8 _ hk ((hw.1.go (d := qn)).mono (by omega) (by omega)) c8
        refine V_ild17 dL_follows_458 ?_
        refine V_i2l dL_follows_460 ?_
        refine V_zf_gt (tgt := 534) dL_follows_461 dL_follows_462 (by decide) (fun q => q3 (by omega) (lt64.mp q)) ?_
        refine V_ald0 dL_follows_465 ?_
        refine V_bipush (v := 8) dL_follows_466 (by decide) ?_
        refine V_ch2R (Y' := Y_L_about) ml_L_104 ch_L_about dL_follows_468 ((k_about hG _).val (v' := (rLev S.2.2.1 (S.2.2.1 0 + nI qn)).toInt64) (by show lAbout (rGo S.2.2.1 (nI qn)) 8 = _; rw [fA8g, rLev_go, rGo_0])) (by decide) (by decide) (by first | decide | (show _ ≤ 2400; dsimp only; omega)) (by first | decide | (show _ ≤ 14400; dsimp only; omega)) (Nat.le_of_ble_eq_true rfl) ?_
        refine V_ild17 dL_follows_471 ?_
        refine V_i2l dL_follows_473 ?_
        refine V_zf_gt (tgt := 534) dL_follows_474 dL_follows_475 (by decide) (fun q => q3 (by omega) (lt64.mp q)) ?_
        refine V_ald0 dL_follows_478 ?_
        refine V_ch1J (Y' := Y_L_undo) ml_L_190 ch_L_undo dL_follows_479 ((k_undo hG).jval (undo_push (mk k hk).2).1 (undo_push (mk k hk).2).2) (by decide) (by decide) (by first | decide | (show _ ≤ 2400; dsimp only; omega)) (by first | decide | (show _ ≤ 14400; dsimp only; omega)) (Nat.le_of_ble_eq_true rfl) (fun M7 L7 c7 f7 => ?_)
        refine V_lconst (v := 0) dL_follows_482 (by decide) ?_
        refine V_zf_lt (tgt := 534) dL_follows_483 dL_follows_484 (by decide) (lNle (b := 0) (Nat.zero_le _) (by omega)) ?_
        have hO7 := okP _ M7 L7 (mk k hk).1 c7
        refine V_lld18 dL_follows_487 ?_
        refine V_ldc2 dL_follows_489 mk_L_178 ?_
        refine V_lb_lt (tgt := 521) dL_follows_492 dL_follows_493 (by decide) (fun h493 => ?_) (fun h493 => ?_)
        · first
          | exact V_widen (k := 680) (n := 4080) (by decide) (by decide) (s521 _ _ _ _ M5 L5 (mk _ (mk k hk).1).1 c5 (f9.trans (f8.trans (f7.trans (f6.trans f5)))))
          | exact V_widen (k := 680) (n := 4080) (by decide) (by decide) (s521 _ _ _ _ M7 L7 (mk k hk).1 c7 (f9.trans (f8.trans f7)))
        · have qp2 : 2 ≤ qn := Nat.not_lt.mp fun q => h493 ((lN_lt (b := 2) (by omega) (by decide)).mpr q)
          refine V_ald0 dL_follows_496 ?_
          refine V_lld18 dL_follows_497 ?_
          refine V_l2i dL_follows_499 ?_
          rw [lN_i]
          refine V_iconst (v := 1) dL_follows_500 (by decide) ?_
          refine V_isub dL_follows_501 ?_
          rw [show nI qn - 1 = nI (qn - 1) from pkSub (b := 1) (by omega)]
          refine V_ch2J (Y' := Y_L_pass) ml_L_134 ch_L_pass dL_follows_502 ((k_pass hO7 _).jval (fPass (q := qn - 1) (by omega) (by omega)).1 (fPass (q := qn - 1) (by omega) (by omega)).2) (by decide) (by decide) (by first | decide | (show _ ≤ 2400; dsimp only; omega)) (by first | decide | (show _ ≤ 14400; dsimp only; omega)) (Nat.le_of_ble_eq_true rfl) (fun M6 L6 c6 f6 => ?_)
          have hG6 := okD _ M6 L6 _ (mk k hk).1 ((hw.1.go (d := qn - 1)).mono (by omega) (by omega)) c6
          refine V_ild17 dL_follows_505 ?_
          refine V_i2l dL_follows_507 ?_
          refine V_zf_le (tgt := 534) dL_follows_508 dL_follows_509 (by decide) (lt64.mpr (q4 (qn - 1) (by omega))) ?_
          refine V_ald0 dL_follows_512 ?_
          refine V_ch1J (Y' := Y_L_undo) ml_L_190 ch_L_undo dL_follows_513 ((k_undo hG6).jval (undo_push (mk _ (mk k hk).1).2).1 (undo_push (mk _ (mk k hk).1).2).2) (by decide) (by decide) (by first | decide | (show _ ≤ 2400; dsimp only; omega)) (by first | decide | (show _ ≤ 14400; dsimp only; omega)) (Nat.le_of_ble_eq_true rfl) (fun M5 L5 c5 f5 => ?_)
          refine V_lconst (v := 0) dL_follows_516 (by decide) ?_
          refine V_zf_lt (tgt := 534) dL_follows_517 dL_follows_518 (by decide) (lNle (b := 0) (Nat.zero_le _) (by omega)) ?_
          first
          | exact V_widen (k := 680) (n := 4080) (by decide) (by decide) (s521 _ _ _ _ M5 L5 (mk _ (mk k hk).1).1 c5 (f9.trans (f8.trans (f7.trans (f6.trans f5)))))
          | exact V_widen (k := 680) (n := 4080) (by decide) (by decide) (s521 _ _ _ _ M7 L7 (mk k hk).1 c7 (f9.trans (f8.trans f7)))
  have s313 : ∀ (ls : Int64), ((ls = -9 ∧ ∀ s, 1 ≤ s → s ≤ 60 → ¬ rDrF S.2.2.1 (nI tk) (nI s) = 0) ∨ ∃ j, 1 ≤ j ∧ j ≤ 60 ∧ ls = lN j ∧ rDrF S.2.2.1 (nI tk) (nI j) = 0 ∧ ∀ s, 1 ≤ s → s < j → ¬ rDrF S.2.2.1 (nI tk) (nI s) = 0) → ∀ (e s : Nat) (o18 o19 : Option Value), s + e = 61 → 1 ≤ s → ∀ (k : Nat) (M9 : xMem) (L9 : xLng), k ≤ S.2.2.2.1 → CRel M9 L9 o (sMc (sKeep S 1) k) → Fr o M L M9 L9 → V E l Y_L_follows (xQm E Y_L_follows (xJV (.int 1) (sMc (sKeep S 1) 0) o n K G M L) xF) (false, n, K, G, M9, L9) (613 + s, 3678 + 6 * s) 313 [some (.ref o), some (.int (nI X)), some (.long (aNow S.2.2.1)), none, some (.long (lN t0)), none, some (.int (nI tk)), some (.int (nI sz)), some (.int 1), some (.long (lN f)), none, some (.long (lN (c f))), none, some (.long (lN r)), none, some (.long ls), none, some (.int (nI s)), o18, o19, none, none, none, none] [] := by
    intro ls hls e
    induction e with
    | zero =>
      intro s o18 o19 hs h1 k M9 L9 hk c9 f9
      have es : s = 61 := by omega
      subst es
      refine V_ild17 dL_follows_313 ?_
      refine V_bipush (v := 60) dL_follows_315 (by decide) ?_
      refine V_yt_gt (tgt := 412) dL_follows_317 (by decide) (by decide) ?_
      exact s412 _ _ _ _ k M9 L9 hk c9 f9
    | succ e ih =>
      intro s o18 o19 hs h1 k M9 L9 hk c9 f9
      have hO := okP k M9 L9 hk c9
      have g4 : rDrF S.2.2.1 (nI tk) (nI s) < 4 := rFt_lt
      have nz : ¬ rDrF S.2.2.1 (nI tk) (nI s) = 0 → ¬ lN (rDrF S.2.2.1 (nI tk) (nI s)) = 0 := fun q w => q ((lN_eq (b := 0) (by omega) (by decide)).mp w)
      have s404 : V E l Y_L_follows (xQm E Y_L_follows (xJV (.int 1) (sMc (sKeep S 1) 0) o n K G M L) xF) (false, n, K, G, M9, L9) (613 + s + 1, 3678 + 6 * s + 6) 404 [some (.ref o), some (.int (nI X)), some (.long (aNow S.2.2.1)), none, some (.long (lN t0)), none, some (.int (nI tk)), some (.int (nI sz)), some (.int 1), some (.long (lN f)), none, some (.long (lN (c f))), none, some (.long (lN r)), none, some (.long ls), none, some (.int (nI s)), some (.long (lN (rDrF S.2.2.1 (nI tk) (nI s)))), none, none, none, none, none] [.int 1] := by
        refine V_ist8 dL_follows_404 rfl (by decide) ?_
        refine V_inc17 dL_follows_406 rfl (nI_1 _) ?_
        refine V_goto (tgt := 313) dL_follows_409 (by decide) ?_
        refine V_widen (k := 613 + (s + 1)) (n := 3678 + 6 * (s + 1)) (by dsimp only; omega) (by dsimp only; omega) (ih (s + 1) _ _ (by omega) (by omega) k M9 L9 hk c9 f9)
      rcases hls with ⟨rfl, hn⟩ | ⟨j, j1, j2, rfl, j3, j4⟩
      · refine V_ild17 dL_follows_313 ?_
        refine V_bipush (v := 60) dL_follows_315 (by decide) ?_
        refine V_yf_gt (tgt := 412) dL_follows_317 (by decide) (nI_nlt (a := 60) (by omega) (by decide)) ?_
        refine V_ild8 dL_follows_320 ?_
        refine V_xf_eq (tgt := 412) dL_follows_322 (by decide) (by decide) ?_
        refine V_ald0 dL_follows_325 ?_
        refine V_ild6 dL_follows_326 ?_
        refine V_ild17 dL_follows_328 ?_
        refine V_ch3R (Y' := Y_L_wouldBe) ml_L_140 ch_L_wouldBe dL_follows_330 ((k_wouldBe hO _ _).val (fWould tk9 ⟨h1, by omega⟩)) (by decide) (by decide) (by first | decide | (show _ ≤ 2400; dsimp only; omega)) (by first | decide | (show _ ≤ 14400; dsimp only; omega)) (Nat.le_of_ble_eq_true rfl) ?_
        refine V_lst18 dL_follows_333 rfl (by decide) ?_
        refine V_lld15 dL_follows_335 ?_
        refine V_ldc2 dL_follows_337 mk_L_176 ?_
        refine V_zf_ne (tgt := 359) dL_follows_340 dL_follows_341 (by decide) (rfl) ?_
        refine V_lld18 dL_follows_344 ?_
        refine V_lconst (v := 0) dL_follows_346 (by decide) ?_
        refine V_zf_eq (tgt := 355) dL_follows_347 dL_follows_348 (by decide) (nz (hn s h1 (by omega))) ?_
        refine V_iconst (v := 1) dL_follows_351 (by decide) ?_
        refine V_goto (tgt := 404) dL_follows_352 (by decide) ?_
        exact s404
      have n9 : ¬ lN j = -9 := fun q => by have := congrArg Int64.toInt q; rw [lN_toInt (by omega)] at this; revert this; show ¬ (j : Int) = -9; omega
      by_cases q1 : s < j
      · refine V_ild17 dL_follows_313 ?_
        refine V_bipush (v := 60) dL_follows_315 (by decide) ?_
        refine V_yf_gt (tgt := 412) dL_follows_317 (by decide) (nI_nlt (a := 60) (by omega) (by decide)) ?_
        refine V_ild8 dL_follows_320 ?_
        refine V_xf_eq (tgt := 412) dL_follows_322 (by decide) (by decide) ?_
        refine V_ald0 dL_follows_325 ?_
        refine V_ild6 dL_follows_326 ?_
        refine V_ild17 dL_follows_328 ?_
        refine V_ch3R (Y' := Y_L_wouldBe) ml_L_140 ch_L_wouldBe dL_follows_330 ((k_wouldBe hO _ _).val (fWould tk9 ⟨h1, by omega⟩)) (by decide) (by decide) (by first | decide | (show _ ≤ 2400; dsimp only; omega)) (by first | decide | (show _ ≤ 14400; dsimp only; omega)) (Nat.le_of_ble_eq_true rfl) ?_
        refine V_lst18 dL_follows_333 rfl (by decide) ?_
        refine V_lld15 dL_follows_335 ?_
        refine V_ldc2 dL_follows_337 mk_L_176 ?_
        refine V_zt_ne (tgt := 359) dL_follows_340 dL_follows_341 (by decide) (n9) ?_
        refine V_ild17 dL_follows_359 ?_
        refine V_i2l dL_follows_361 ?_
        rw [nI_l (by omega)]
        refine V_lld15 dL_follows_362 ?_
        refine V_zf_ge (tgt := 383) dL_follows_364 dL_follows_365 (by decide) ((lN_lt (by omega) (by omega)).mpr q1) ?_
        refine V_lld18 dL_follows_368 ?_
        refine V_lconst (v := 0) dL_follows_370 (by decide) ?_
        refine V_zf_eq (tgt := 379) dL_follows_371 dL_follows_372 (by decide) (nz (j4 s h1 q1)) ?_
        refine V_iconst (v := 1) dL_follows_375 (by decide) ?_
        refine V_goto (tgt := 404) dL_follows_376 (by decide) ?_
        exact s404
      by_cases q2 : j < s
      · refine V_ild17 dL_follows_313 ?_
        refine V_bipush (v := 60) dL_follows_315 (by decide) ?_
        refine V_yf_gt (tgt := 412) dL_follows_317 (by decide) (nI_nlt (a := 60) (by omega) (by decide)) ?_
        refine V_ild8 dL_follows_320 ?_
        refine V_xf_eq (tgt := 412) dL_follows_322 (by decide) (by decide) ?_
        refine V_ald0 dL_follows_325 ?_
        refine V_ild6 dL_follows_326 ?_
        refine V_ild17 dL_follows_328 ?_
        refine V_ch3R (Y' := Y_L_wouldBe) ml_L_140 ch_L_wouldBe dL_follows_330 ((k_wouldBe hO _ _).val (fWould tk9 ⟨h1, by omega⟩)) (by decide) (by decide) (by first | decide | (show _ ≤ 2400; dsimp only; omega)) (by first | decide | (show _ ≤ 14400; dsimp only; omega)) (Nat.le_of_ble_eq_true rfl) ?_
        refine V_lst18 dL_follows_333 rfl (by decide) ?_
        refine V_lld15 dL_follows_335 ?_
        refine V_ldc2 dL_follows_337 mk_L_176 ?_
        refine V_zt_ne (tgt := 359) dL_follows_340 dL_follows_341 (by decide) (n9) ?_
        refine V_ild17 dL_follows_359 ?_
        refine V_i2l dL_follows_361 ?_
        rw [nI_l (by omega)]
        refine V_lld15 dL_follows_362 ?_
        refine V_zt_ge (tgt := 383) dL_follows_364 dL_follows_365 (by decide) (lNle (by omega) (by omega)) ?_
        refine V_ild17 dL_follows_383 ?_
        refine V_i2l dL_follows_385 ?_
        rw [nI_l (by omega)]
        refine V_lld15 dL_follows_386 ?_
        refine V_zt_gt (tgt := 399) dL_follows_388 dL_follows_389 (by decide) ((lN_lt (by omega) (by omega)).mpr q2) ?_
        refine V_iconst (v := 1) dL_follows_399 (by decide) ?_
        refine V_goto (tgt := 404) dL_follows_400 (by decide) ?_
        exact s404
      have ej : s = j := by omega
      refine V_ild17 dL_follows_313 ?_
      refine V_bipush (v := 60) dL_follows_315 (by decide) ?_
      refine V_yf_gt (tgt := 412) dL_follows_317 (by decide) (nI_nlt (a := 60) (by omega) (by decide)) ?_
      refine V_ild8 dL_follows_320 ?_
      refine V_xf_eq (tgt := 412) dL_follows_322 (by decide) (by decide) ?_
      refine V_ald0 dL_follows_325 ?_
      refine V_ild6 dL_follows_326 ?_
      refine V_ild17 dL_follows_328 ?_
      refine V_ch3R (Y' := Y_L_wouldBe) ml_L_140 ch_L_wouldBe dL_follows_330 ((k_wouldBe hO _ _).val (fWould tk9 ⟨h1, by omega⟩)) (by decide) (by decide) (by first | decide | (show _ ≤ 2400; dsimp only; omega)) (by first | decide | (show _ ≤ 14400; dsimp only; omega)) (Nat.le_of_ble_eq_true rfl) ?_
      refine V_lst18 dL_follows_333 rfl (by decide) ?_
      refine V_lld15 dL_follows_335 ?_
      refine V_ldc2 dL_follows_337 mk_L_176 ?_
      refine V_zt_ne (tgt := 359) dL_follows_340 dL_follows_341 (by decide) (n9) ?_
      refine V_ild17 dL_follows_359 ?_
      refine V_i2l dL_follows_361 ?_
      rw [nI_l (by omega)]
      refine V_lld15 dL_follows_362 ?_
      refine V_zt_ge (tgt := 383) dL_follows_364 dL_follows_365 (by decide) (lNle (by omega) (by omega)) ?_
      refine V_ild17 dL_follows_383 ?_
      refine V_i2l dL_follows_385 ?_
      rw [nI_l (by omega)]
      refine V_lld15 dL_follows_386 ?_
      refine V_zf_gt (tgt := 399) dL_follows_388 dL_follows_389 (by decide) (lNle (by omega) (by omega)) ?_
      refine V_lld18 dL_follows_392 ?_
      refine V_lconst (v := 0) dL_follows_394 (by decide) ?_
      refine V_zf_ne (tgt := 403) dL_follows_395 dL_follows_396 (by decide) (by show lN (rDrF S.2.2.1 (nI tk) (nI s)) = 0; rw [ej, j3]; rfl) ?_
      refine V_iconst (v := 1) dL_follows_399 (by decide) ?_
      refine V_goto (tgt := 404) dL_follows_400 (by decide) ?_
      exact s404
  have s300 : ∀ (k : Nat) (M9 : xMem) (L9 : xLng), k ≤ S.2.2.2.1 → CRel M9 L9 o (sMc (sKeep S 1) k) → Fr o M L M9 L9 → V E l Y_L_follows (xQm E Y_L_follows (xJV (.int 1) (sMc (sKeep S 1) 0) o n K G M L) xF) (false, n, K, G, M9, L9) (613, 3678) 300 [some (.ref o), some (.int (nI X)), some (.long (aNow S.2.2.1)), none, some (.long (lN t0)), none, some (.int (nI tk)), some (.int (nI sz)), some (.int 1), some (.long (lN f)), none, some (.long (lN (c f))), none, some (.long (lN r)), none, none, none, none, none, none, none, none, none, none] [.int 1] := by
    intro k M9 L9 hk c9 f9
    have hO := okP k M9 L9 hk c9
    refine V_ist8 dL_follows_300 rfl (by decide) ?_
    refine V_ald0 dL_follows_302 ?_
    refine V_ild6 dL_follows_303 ?_
    refine V_ch2R (Y' := Y_L_leastSize) ml_L_142 ch_L_leastSize dL_follows_305 (k_leastSize hO _) (by decide) (by decide) (by first | decide | (show _ ≤ 2400; dsimp only; omega)) (by first | decide | (show _ ≤ 14400; dsimp only; omega)) (Nat.le_of_ble_eq_true rfl) ?_
    refine V_lst15 dL_follows_308 rfl (by decide) ?_
    refine V_iconst (v := 1) dL_follows_310 (by decide) ?_
    refine V_ist17 dL_follows_311 rfl (by decide) ?_
    exact s313 _ (fLeast tk9) 60 1 _ _ (by omega) (Nat.le_refl 1) k M9 L9 hk c9 f9
  have s92 : ∀ (k : Nat) (M9 : xMem) (L9 : xLng), k ≤ S.2.2.2.1 → CRel M9 L9 o (sMc (sKeep S 1) k) → Fr o M L M9 L9 → V E l Y_L_follows (xQm E Y_L_follows (xJV (.int 1) (sMc (sKeep S 1) 0) o n K G M L) xF) (false, n, K, G, M9, L9) (404, 2424) 92 [some (.ref o), some (.int (nI X)), some (.long (aNow S.2.2.1)), none, some (.long (lN t0)), none, some (.int (nI tk)), some (.int (nI sz)), none, none, none, none, none, none, none, none, none, none, none, none, none, none, none, none] [.int 1] := by
    intro k M9 L9 hk c9 f9
    have hO := okP k M9 L9 hk c9
    have e2f : (2 + lN f : Int64).toInt32 = nI (2 + f) := by rw [show (2 + lN f : Int64) = lN (2 + f) from lN_add 2 f, lN_i]
    have esc : (1000000000 + 10000000 * (nI tk).toInt64 + 100000 * (nI sz).toInt64 + 70000 + lN f : Int64) = lN (1000000000 + 10000000 * tk + 100000 * sz + 70000 + f) := by
      rw [nI_l (by omega), nI_l (by omega), show (10000000 * lN tk : Int64) = lN (10000000 * tk) from lN_mul _ _, show (100000 * lN sz : Int64) = lN (100000 * sz) from lN_mul _ _, show (1000000000 + lN (10000000 * tk) : Int64) = lN (1000000000 + 10000000 * tk) from lN_add _ _, lN_add, show (lN (1000000000 + 10000000 * tk + 100000 * sz) + 70000 : Int64) = lN (1000000000 + 10000000 * tk + 100000 * sz + 70000) from lN_add _ _, lN_add]
    have hD := hw.1.dr sz9 (d := tk) (show T + tk < 2 ^ 30 by omega) (show B < 2 ^ 30 by omega)
    have ha' := ha.dr hw.1 (d := tk) sz9 (by omega)
    rw [← ef] at ha'
    have hwr : WFr (rDr S.2.2.1 (nI tk) (nI sz)) (T + 99) (B + 216000) := hD.mono (by omega) (Nat.le_refl _)
    have lt := fLast ha hw.1 (d := tk) sz9 (by omega)
    rw [← ef] at lt
    have s277 : ∀ (M8 : xMem) (L8 : xLng), CRel M8 L8 o (sNow (sPush (sMc (sKeep S 1) k)) (rDr S.2.2.1 (nI tk) (nI sz))) → Fr o M L M8 L8 → V E l Y_L_follows (xQm E Y_L_follows (xJV (.int 1) (sMc (sKeep S 1) 0) o n K G M L) xF) (false, n, K, G, M8, L8) (412, 2472) 277 [some (.ref o), some (.int (nI X)), some (.long (aNow S.2.2.1)), none, some (.long (lN t0)), none, some (.int (nI tk)), some (.int (nI sz)), some (.int 1), some (.long (lN f)), none, some (.long (lN (c f))), none, some (.long (lN r)), none, none, none, none, none, none, none, none, none, none] [] := by
      intro M8 L8 c8 f8
      have h8 := okD k M8 L8 _ hk hwr c8
      refine V_ald0 dL_follows_277 ?_
      refine V_ch1J (Y' := Y_L_undo) ml_L_190 ch_L_undo dL_follows_278 ((k_undo h8).jval (undo_push (mk k hk).2).1 (undo_push (mk k hk).2).2) (by decide) (by decide) (by first | decide | (show _ ≤ 2400; dsimp only; omega)) (by first | decide | (show _ ≤ 14400; dsimp only; omega)) (Nat.le_of_ble_eq_true rfl) (fun M7 L7 c7 f7 => ?_)
      refine V_lconst (v := 0) dL_follows_281 (by decide) ?_
      refine V_zf_lt (tgt := 299) dL_follows_282 dL_follows_283 (by decide) (lNle (b := 0) (Nat.zero_le _) (by omega)) ?_
      have hO7 := okP _ M7 L7 (mk k hk).1 c7
      refine V_ald0 dL_follows_286 ?_
      refine V_cs1RA lk_L_122 cc_L_now dL_follows_287 (c_L_now hO7) (xFit.mk (by decide) (by decide) (by first | decide | (show _ ≤ 2400; dsimp only; omega)) (by first | decide | (show _ ≤ 14400; dsimp only; omega))) (Nat.le_of_ble_eq_true rfl) ?_
      refine V_lld2 dL_follows_290 ?_
      refine V_zf_ne (tgt := 299) dL_follows_291 dL_follows_292 (by decide) (rfl) ?_
      refine V_iconst (v := 1) dL_follows_295 (by decide) ?_
      refine V_goto (tgt := 300) dL_follows_296 (by decide) ?_
      exact V_widen (k := 613) (n := 3678) (by decide) (by decide) (s300 _ M7 L7 (mk k hk).1 c7 (f8.trans f7))
    refine V_ist8 dL_follows_92 rfl (by decide) ?_
    refine V_ald0 dL_follows_94 ?_
    refine V_ild6 dL_follows_95 ?_
    refine V_ild7 dL_follows_97 ?_
    refine V_ch3R (Y' := Y_L_wouldBe) ml_L_140 ch_L_wouldBe dL_follows_99 ((k_wouldBe hO _ _).val (v' := lN f) (by rw [ef]; exact fWould tk9 sz9)) (by decide) (by decide) (by first | decide | (show _ ≤ 2400; dsimp only; omega)) (by first | decide | (show _ ≤ 14400; dsimp only; omega)) (Nat.le_of_ble_eq_true rfl) ?_
    refine V_lst9 dL_follows_102 rfl (by decide) ?_
    refine V_ald0 dL_follows_104 ?_
    refine V_ldc2 dL_follows_105 mk_L_178 ?_
    refine V_lld9 dL_follows_108 ?_
    refine V_ladd dL_follows_110 ?_
    refine V_l2i dL_follows_111 ?_
    rw [e2f]
    refine V_ch2R (Y' := Y_L_about) ml_L_104 ch_L_about dL_follows_112 ((k_about hO _).val (fA2n ha f4)) (by decide) (by decide) (by first | decide | (show _ ≤ 2400; dsimp only; omega)) (by first | decide | (show _ ≤ 14400; dsimp only; omega)) (Nat.le_of_ble_eq_true rfl) ?_
    refine V_lst11 dL_follows_115 rfl (by decide) ?_
    refine V_ald0 dL_follows_117 ?_
    refine V_cv0R lk_L_118 cc_X5_trueRain dL_follows_118 (by assumption) ((c_X5_trueRain h c9).val (v' := lN r) (by show (S.2.2.1 190).toInt64 = _; rw [ha.2.1, nI_l (by omega)])) (xFit.mk (by decide) (by decide) (by first | decide | (show _ ≤ 2400; dsimp only; omega)) (by first | decide | (show _ ≤ 14400; dsimp only; omega))) rfl rfl (Nat.le_of_ble_eq_true rfl) ?_
    refine V_lst13 dL_follows_121 rfl (by decide) ?_
    refine V_ild8 dL_follows_123 ?_
    refine V_xf_eq (tgt := 299) dL_follows_125 (by decide) (by decide) ?_
    refine V_lld9 dL_follows_128 ?_
    refine V_lconst (v := 0) dL_follows_130 (by decide) ?_
    refine V_ldc2 dL_follows_131 mk_L_180 ?_
    refine V_cs3R lk_L_172 cc_L_in dL_follows_134 (c_L_in _ _ _) (xFit.mk (by decide) (by decide) (by first | decide | (show _ ≤ 2400; dsimp only; omega)) (by first | decide | (show _ ≤ 14400; dsimp only; omega))) rfl rfl (Nat.le_of_ble_eq_true rfl) ?_
    refine V_xf_eq (tgt := 299) dL_follows_137 (by decide) (by rw [bI0, Decidable.not_not]; exact ⟨lNle (b := 0) (Nat.zero_le _) (by omega), lNle (a := 3) (show f ≤ 3 by omega) (by decide)⟩) ?_
    refine V_ald0 dL_follows_140 ?_
    refine V_iconst (v := 2) dL_follows_141 (by decide) ?_
    refine V_ldc2 dL_follows_142 mk_L_182 ?_
    refine V_ldc2 dL_follows_145 mk_L_184 ?_
    refine V_ild6 dL_follows_148 ?_
    refine V_i2l dL_follows_150 ?_
    refine V_lmul dL_follows_151 ?_
    refine V_ladd dL_follows_152 ?_
    refine V_ldc2 dL_follows_153 mk_L_186 ?_
    refine V_ild7 dL_follows_156 ?_
    refine V_i2l dL_follows_158 ?_
    refine V_lmul dL_follows_159 ?_
    refine V_ladd dL_follows_160 ?_
    refine V_ldc2 dL_follows_161 mk_L_188 ?_
    refine V_ladd dL_follows_164 ?_
    refine V_lld9 dL_follows_165 ?_
    refine V_ladd dL_follows_167 ?_
    rw [esc]
    refine V_ch3J (Y' := Y_L_script) ml_L_151 ch_L_script dL_follows_168 ((k_script hO _ _).jval (v' := -9) (by show lScript S.2.2.1 2 _ = _; rw [ef]; exact fScript ha hw.1 tk9 sz9 (by omega)) rfl) (by decide) (by decide) (by first | decide | (show _ ≤ 2400; dsimp only; omega)) (by first | decide | (show _ ≤ 14400; dsimp only; omega)) (Nat.le_of_ble_eq_true rfl) (fun M9 L9 c9 f8 => ?_)
    have hO := hO.go c9
    have f9 := f9.trans f8
    refine V_ldc2 dL_follows_171 mk_L_176 ?_
    refine V_zf_ne (tgt := 299) dL_follows_174 dL_follows_175 (by decide) (rfl) ?_
    refine V_ald0 dL_follows_178 ?_
    refine V_ild6 dL_follows_179 ?_
    refine V_ild7 dL_follows_181 ?_
    refine V_ch3J (Y' := Y_L_drop) ml_L_132 ch_L_drop dL_follows_183 ((k_drop hO _ _).jval (v' := lN f) ((fDrop tk9 sz9).1.trans (by rw [ef]; rfl)) (fDrop tk9 sz9).2) (by decide) (by decide) (by first | decide | (show _ ≤ 2400; dsimp only; omega)) (by first | decide | (show _ ≤ 14400; dsimp only; omega)) (Nat.le_of_ble_eq_true rfl) (fun M8 L8 c8 f8 => ?_)
    have h8 := okD k M8 L8 _ hk hwr c8
    refine V_lld9 dL_follows_186 ?_
    refine V_zf_ne (tgt := 299) dL_follows_188 dL_follows_189 (by decide) (rfl) ?_
    refine V_ald0 dL_follows_192 ?_
    refine V_iconst (v := 0) dL_follows_193 (by decide) ?_
    refine V_ch2R (Y' := Y_L_fate) ml_L_116 ch_L_fate dL_follows_194 ((k_fate h8 _).val (v' := lN f) (by show lFate (rDr S.2.2.1 (nI tk) (nI sz)) 0 = _; rw [lFate_0, lt, nI_l (by omega)])) (by decide) (by decide) (by first | decide | (show _ ≤ 2400; dsimp only; omega)) (by first | decide | (show _ ≤ 14400; dsimp only; omega)) (Nat.le_of_ble_eq_true rfl) ?_
    refine V_lld9 dL_follows_197 ?_
    refine V_zf_ne (tgt := 299) dL_follows_199 dL_follows_200 (by decide) (rfl) ?_
    refine V_ald0 dL_follows_203 ?_
    refine V_ldc2 dL_follows_204 mk_L_178 ?_
    refine V_lld9 dL_follows_207 ?_
    refine V_ladd dL_follows_209 ?_
    refine V_l2i dL_follows_210 ?_
    rw [e2f]
    refine V_ch2R (Y' := Y_L_about) ml_L_104 ch_L_about dL_follows_211 ((k_about h8 _).val (fA2n ha' f4)) (by decide) (by decide) (by first | decide | (show _ ≤ 2400; dsimp only; omega)) (by first | decide | (show _ ≤ 14400; dsimp only; omega)) (Nat.le_of_ble_eq_true rfl) ?_
    refine V_lld11 dL_follows_214 ?_
    refine V_lconst (v := 1) dL_follows_216 (by decide) ?_
    refine V_ladd dL_follows_217 ?_
    refine V_zf_ne (tgt := 299) dL_follows_218 dL_follows_219 (by decide) (by rw [lN_1, if_pos rfl]) ?_
    refine V_ald0 dL_follows_222 ?_
    refine V_iconst (v := 0) dL_follows_223 (by decide) ?_
    refine V_ch2R (Y' := Y_L_about) ml_L_104 ch_L_about dL_follows_224 ((k_about h8 _).val (v' := lN (t0 + tk)) (by show lAbout (rDr S.2.2.1 (nI tk) (nI sz)) 0 = _; rw [lAbout_0, rDr_0 hw.1, e0, nI_add, nI_l (by omega)])) (by decide) (by decide) (by first | decide | (show _ ≤ 2400; dsimp only; omega)) (by first | decide | (show _ ≤ 14400; dsimp only; omega)) (Nat.le_of_ble_eq_true rfl) ?_
    refine V_lld4 dL_follows_227 ?_
    refine V_ild6 dL_follows_229 ?_
    refine V_i2l dL_follows_231 ?_
    refine V_ladd dL_follows_232 ?_
    refine V_zf_ne (tgt := 299) dL_follows_233 dL_follows_234 (by decide) (by rw [nI_l (by omega), lN_add]) ?_
    refine V_ald0 dL_follows_237 ?_
    refine V_cv0R lk_L_118 cc_X5_trueRain dL_follows_238 (by assumption) ((c_X5_trueRain h c8).val (v' := lN (r + sz * sz * sz)) (by show (rDr S.2.2.1 (nI tk) (nI sz) 190).toInt64 = _; rw [ha'.2.1, nI_l (by omega)])) (xFit.mk (by decide) (by decide) (by first | decide | (show _ ≤ 2400; dsimp only; omega)) (by first | decide | (show _ ≤ 14400; dsimp only; omega))) rfl rfl (Nat.le_of_ble_eq_true rfl) ?_
    refine V_lld13 dL_follows_241 ?_
    refine V_ild7 dL_follows_243 ?_
    refine V_i2l dL_follows_245 ?_
    refine V_ild7 dL_follows_246 ?_
    refine V_i2l dL_follows_248 ?_
    refine V_lmul dL_follows_249 ?_
    refine V_ild7 dL_follows_250 ?_
    refine V_i2l dL_follows_252 ?_
    refine V_lmul dL_follows_253 ?_
    refine V_ladd dL_follows_254 ?_
    refine V_zf_ne (tgt := 299) dL_follows_255 dL_follows_256 (by decide) (by rw [nI_l (by omega), lN_mul, lN_mul, lN_add]) ?_
    refine V_lld9 dL_follows_259 ?_
    refine V_lconst (v := 1) dL_follows_261 (by decide) ?_
    refine V_lb_gt (tgt := 277) dL_follows_262 dL_follows_263 (by decide) (fun h263 => ?_) (fun h263 => ?_)
    · exact V_widen (k := 412) (n := 2472) (by decide) (by decide) (s277 M8 L8 c8 (f9.trans f8))
    · refine V_ald0 dL_follows_266 ?_
      refine V_bipush (v := 11) dL_follows_267 (by decide) ?_
      refine V_ch2R (Y' := Y_L_about) ml_L_104 ch_L_about dL_follows_269 ((k_about h8 _).val (v' := 1) (by show lAbout (rDr S.2.2.1 (nI tk) (nI sz)) 11 = _; rw [fA11, rDr_13 hw.1 (by rw [← ef]; exact Nat.not_lt.mp fun q => h263 ((lN_lt (a := 1) (by decide) (by omega)).mpr q))]; rfl)) (by decide) (by decide) (by first | decide | (show _ ≤ 2400; dsimp only; omega)) (by first | decide | (show _ ≤ 14400; dsimp only; omega)) (Nat.le_of_ble_eq_true rfl) ?_
      refine V_lconst (v := 1) dL_follows_272 (by decide) ?_
      refine V_zf_ne (tgt := 299) dL_follows_273 dL_follows_274 (by decide) (rfl) ?_
      exact V_widen (k := 412) (n := 2472) (by decide) (by decide) (s277 M8 L8 c8 (f9.trans f8))
  have hO0 : OK l n K G M L o S := ⟨hl, h, hc, T, B, hw, by omega, by omega⟩
  have s33 : V E l Y_L_follows (xQm E Y_L_follows (xJV (.int 1) (sMc (sKeep S 1) 0) o n K G M L) xF) (false, n, K, G, M, L) (201, 1206) 33 [some (.ref o), some (.int (nI X)), some (.long (aNow S.2.2.1)), none, some (.long (lN t0)), none, none, none, none, none, none, none, none, none, none, none, none, none, none, none, none, none, none, none] [.int (nI tk)] := by
    refine V_ist6 dL_follows_33 rfl (by decide) ?_
    refine V_iconst (v := 1) dL_follows_35 (by decide) ?_
    refine V_ild1 dL_follows_36 ?_
    refine V_sipush (v := 300) dL_follows_37 (by decide) ?_
    refine V_idiv dL_follows_40 (by decide) ?_
    refine V_bipush (v := 60) dL_follows_41 (by decide) ?_
    refine V_irem dL_follows_43 (by decide) ?_
    refine V_iadd dL_follows_44 ?_
    rw [d300, x60, p60]
    refine V_ist7 dL_follows_45 rfl (by decide) ?_
    refine V_ald0 dL_follows_47 ?_
    refine V_iconst (v := 1) dL_follows_48 (by decide) ?_
    refine V_ch2J (Y' := Y_L_save) ml_L_160 ch_L_save dL_follows_49 ((k_save hO0 _).jval (fSave.1.trans v0) fSave.2) (by decide) (by decide) (by first | decide | (show _ ≤ 2400; dsimp only; omega)) (by first | decide | (show _ ≤ 14400; dsimp only; omega)) (Nat.le_of_ble_eq_true rfl) (fun M9 L9 c9 f9 => ?_)
    have hO := okP _ M9 L9 (Nat.le_refl _) c9
    refine V_lld4 dL_follows_52 ?_
    refine V_zf_ne (tgt := 91) dL_follows_54 dL_follows_55 (by decide) (rfl) ?_
    refine V_ald0 dL_follows_58 ?_
    refine V_ild1 dL_follows_59 ?_
    refine V_i2l dL_follows_60 ?_
    refine V_bipush (v := 30) dL_follows_61 (by decide) ?_
    refine V_ch3J (Y' := Y_L_simulate) ml_L_157 ch_L_simulate dL_follows_63 ((k_simulate hO _ _).jval rfl rfl) (by decide) (by decide) (by first | decide | (show _ ≤ 2400; dsimp only; omega)) (by first | decide | (show _ ≤ 14400; dsimp only; omega)) (Nat.le_of_ble_eq_true rfl) (fun M9 L9 c9 f8 => ?_)
    have hO := hO.go c9
    have f9 := f9.trans f8
    refine V_ald0 dL_follows_66 ?_
    refine V_ild1 dL_follows_67 ?_
    refine V_i2l dL_follows_68 ?_
    refine V_bipush (v := 30) dL_follows_69 (by decide) ?_
    refine V_ch3J (Y' := Y_L_simulate) ml_L_157 ch_L_simulate dL_follows_71 ((k_simulate hO _ _).jval rfl rfl) (by decide) (by decide) (by first | decide | (show _ ≤ 2400; dsimp only; omega)) (by first | decide | (show _ ≤ 14400; dsimp only; omega)) (Nat.le_of_ble_eq_true rfl) (fun M9 L9 c9 f8 => ?_)
    have hO := hO.go c9
    have f9 := f9.trans f8
    refine V_zf_ne (tgt := 91) dL_follows_74 dL_follows_75 (by decide) (rfl) ?_
    refine V_ald0 dL_follows_78 ?_
    refine V_cs1RA lk_L_122 cc_L_now dL_follows_79 (c_L_now hO) (xFit.mk (by decide) (by decide) (by first | decide | (show _ ≤ 2400; dsimp only; omega)) (by first | decide | (show _ ≤ 14400; dsimp only; omega))) (Nat.le_of_ble_eq_true rfl) ?_
    refine V_lld2 dL_follows_82 ?_
    refine V_zf_ne (tgt := 91) dL_follows_83 dL_follows_84 (by decide) (rfl) ?_
    refine V_iconst (v := 1) dL_follows_87 (by decide) ?_
    refine V_goto (tgt := 92) dL_follows_88 (by decide) ?_
    exact V_widen (k := 404) (n := 2424) (by decide) (by decide) (s92 _ _ _ (Nat.le_refl _) hO.2.2.1 f9)
  by_cases x0 : X % 3 = 0
  · rw [if_pos x0] at etk
    refine V_ald0 dL_follows_0 ?_
    refine V_cs1RA lk_L_122 cc_L_now dL_follows_1 (c_L_now hO0) (xFit.mk (by decide) (by decide) (by first | decide | (show _ ≤ 2400; dsimp only; omega)) (by first | decide | (show _ ≤ 14400; dsimp only; omega))) (Nat.le_of_ble_eq_true rfl) ?_
    refine V_lst2 dL_follows_4 rfl (by decide) ?_
    refine V_ald0 dL_follows_5 ?_
    refine V_iconst (v := 0) dL_follows_6 (by decide) ?_
    refine V_ch2R (Y' := Y_L_about) ml_L_104 ch_L_about dL_follows_7 ((k_about hO0 _).val (lAbout_0.trans v0)) (by decide) (by decide) (by first | decide | (show _ ≤ 2400; dsimp only; omega)) (by first | decide | (show _ ≤ 14400; dsimp only; omega)) (Nat.le_of_ble_eq_true rfl) ?_
    refine V_lst4 dL_follows_10 rfl (by decide) ?_
    refine V_ild1 dL_follows_12 ?_
    refine V_iconst (v := 3) dL_follows_13 (by decide) ?_
    refine V_irem dL_follows_14 (by decide) ?_
    rw [x3]
    refine V_xf_ne (tgt := 27) dL_follows_15 (by decide) (by rw [x0]; rfl) ?_
    refine V_ild1 dL_follows_18 ?_
    refine V_iconst (v := 3) dL_follows_19 (by decide) ?_
    refine V_idiv dL_follows_20 (by decide) ?_
    refine V_bipush (v := 100) dL_follows_21 (by decide) ?_
    refine V_irem dL_follows_23 (by decide) ?_
    refine V_goto (tgt := 33) dL_follows_24 (by decide) ?_
    rw [d3, x100, ← etk]
    exact V_widen (k := 201) (n := 1206) (by decide) (by decide) s33
  · rw [if_neg x0] at etk
    refine V_ald0 dL_follows_0 ?_
    refine V_cs1RA lk_L_122 cc_L_now dL_follows_1 (c_L_now hO0) (xFit.mk (by decide) (by decide) (by first | decide | (show _ ≤ 2400; dsimp only; omega)) (by first | decide | (show _ ≤ 14400; dsimp only; omega))) (Nat.le_of_ble_eq_true rfl) ?_
    refine V_lst2 dL_follows_4 rfl (by decide) ?_
    refine V_ald0 dL_follows_5 ?_
    refine V_iconst (v := 0) dL_follows_6 (by decide) ?_
    refine V_ch2R (Y' := Y_L_about) ml_L_104 ch_L_about dL_follows_7 ((k_about hO0 _).val (lAbout_0.trans v0)) (by decide) (by decide) (by first | decide | (show _ ≤ 2400; dsimp only; omega)) (by first | decide | (show _ ≤ 14400; dsimp only; omega)) (Nat.le_of_ble_eq_true rfl) ?_
    refine V_lst4 dL_follows_10 rfl (by decide) ?_
    refine V_ild1 dL_follows_12 ?_
    refine V_iconst (v := 3) dL_follows_13 (by decide) ?_
    refine V_irem dL_follows_14 (by decide) ?_
    rw [x3]
    refine V_xt_ne (tgt := 27) dL_follows_15 (by decide) (fun q => x0 ((nI_eq (b := 0) (by omega) (by decide)).mp q)) ?_
    refine V_ild1 dL_follows_27 ?_
    refine V_iconst (v := 3) dL_follows_28 (by decide) ?_
    refine V_idiv dL_follows_29 (by decide) ?_
    refine V_bipush (v := 6) dL_follows_30 (by decide) ?_
    refine V_irem dL_follows_32 (by decide) ?_
    rw [d3, x6, ← etk]
    exact V_widen (k := 201) (n := 1206) (by decide) (by decide) s33
end C88

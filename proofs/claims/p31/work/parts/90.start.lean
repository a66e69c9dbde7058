/-! ===== the law: its beginning ===== -/
section C90
variable {E : xEnv} {l : Launch} {Q : xQ} {K : xKnd} {G : xRef} {M : xMem} {L : xLng}
set_option maxRecDepth 100000 in
set_option maxHeartbeats 4000000 in
theorem L_start (hl : l.stackTraces = false) (hN : E.2.2.2.1 < 2 ^ 31)
    (fin : ∀ (q : xS) (cs : Nat × Nat) (ls : List (Option Value)), cs.1 ≤ 600130 → cs.2 ≤ 7301080 → V E l Y_L_law Q q cs 296 ls [.int 1]) :
    V E l Y_L_law Q (true, 3, K, G, M, L) (0, 0) 0 [some (.ref 2), none, none, none, none, none, none] [] := by
  refine V_new mn_L_10 dL_law_0 (by decide) (by decide) ?_
  refine V_dup dL_law_3 rfl ?_
  refine V_ci0P lk_L_211 cc_X5_init dL_law_4 (c_X5_init (xIs.new (Nat.le_refl 3) (by decide)) rfl) (xFit.mk (by decide) (by decide) (by decide) (by decide)) (Nat.le_of_ble_eq_true rfl) (fun o9 q9 hq9 => ?_)
  obtain ⟨rfl, K1, G1, M1, L1, rfl, ⟨-, fK1, fA1⟩, r1, i1⟩ := hq9
  show V E l _ _ (true, 292, K1, G1, M1, L1) (289, 4877) 7 _ [.ref 3]
  refine V_ast1 dL_law_7 rfl (by decide) ?_
  refine V_new mn_L_10 dL_law_8 (by decide) (by decide) ?_
  refine V_dup dL_law_11 rfl ?_
  refine V_ci0P lk_L_211 cc_X5_init dL_law_12 (c_X5_init (xIs.new (n := 292) (by decide) (by decide)) rfl) (xFit.mk (by decide) (by decide) (by decide) (by decide)) (Nat.le_of_ble_eq_true rfl) (fun o9 q9 hq9 => ?_)
  obtain ⟨rfl, K2, G2, M2, L2, rfl, ⟨-, fK2, fA2⟩, r2, i2⟩ := hq9
  show V E l _ _ (true, 581, K2, G2, M2, L2) (578, 9754) 15 _ [.ref 292]
  refine V_ast2 dL_law_15 rfl (by decide) ?_
  refine V_loose ?_
  have h1 : rX 581 K2 G2 3 := rX.go r1 (by decide) (fun k q1 q2 => ⟨by rw [fK2 k (by omega), xnw_n (by omega)], by rw [(fA2 k (by omega) (by omega)).1, xnw_n (by omega)]⟩)
  have c1 : CRel M2 L2 3 sNew := CRel.cong i1 (fun k q1 q2 => by rw [(fA2 k (by omega) (by omega)).2.1, xnw_n (by omega)]) (fun k q1 q2 => by rw [(fA2 k (by omega) (by omega)).2.2, xnw_n (by omega)])
  have hA := OK.of hl h1 c1 WK.new (by omega) (by omega)
  have hB := OK.of hl r2 i2 WK.new (by omega) (by omega)
  show V E l _ _ (false, 581, K2, G2, M2, L2) (578, 9754) 16 _ []
  refine V_ald1 dL_law_16 ?_
  refine V_ald2 dL_law_17 ?_
  refine V_ald0 dL_law_18 ?_
  refine V_iconst (v := 0) dL_law_19 (by decide) ?_
  refine V_cs2R lk_L_212 cc_L_draw dL_law_20 (c_L_draw hN (k := 0) (by decide)) (xFit.mk (by decide) (by decide) (by first | decide | (show _ ≤ 600130; dsimp only; omega)) (by first | decide | (show _ ≤ 7301080; dsimp only; omega))) rfl rfl (Nat.le_of_ble_eq_true rfl) ?_
  refine V_al lk_L_216 cc_L_alike dL_law_23 (c_L_alike hA hB (by decide) _) (xFit.mk (by decide) (by decide) (by first | decide | (show _ ≤ 600130; dsimp only; omega)) (by first | decide | (show _ ≤ 7301080; dsimp only; omega))) (Nat.le_of_ble_eq_true rfl) (fun M9 L9 a1 a2 => ?_)
  refine V_xf_eq (tgt := 47) dL_law_26 (by decide) (by decide) ?_
  refine V_ald1 dL_law_29 ?_
  refine V_cs1J lk_L_220 cc_L_errors dL_law_30 (c_L_errors (OK.of hl h1 a1 WK.new (by omega) (by omega))) (xFit.mk (by decide) (by decide) (by first | decide | (show _ ≤ 600130; dsimp only; omega)) (by first | decide | (show _ ≤ 7301080; dsimp only; omega))) (Nat.le_of_ble_eq_true rfl) (fun M8 L8 a3 f8 => ?_)
  refine V_xf_eq (tgt := 47) dL_law_33 (by decide) (by decide) ?_
  refine V_ald1 dL_law_36 ?_
  refine V_cs1J lk_L_224 cc_L_kept dL_law_37 (c_L_kept (OK.of hl h1 a3 WK.new (by omega) (by omega)) KP.cln) (xFit.mk (by decide) (by decide) (by first | decide | (show _ ≤ 600130; dsimp only; omega)) (by first | decide | (show _ ≤ 7301080; dsimp only; omega))) (Nat.le_of_ble_eq_true rfl) (fun M7 L7 a4 f7 => ?_)
  refine V_xf_eq (tgt := 47) dL_law_40 (by decide) (by decide) ?_
  refine V_iconst (v := 1) dL_law_43 (by decide) ?_
  refine V_goto (tgt := 48) dL_law_44 (by decide) ?_
  refine V_ist3 dL_law_48 rfl (by decide) ?_
  refine V_iconst (v := 0) dL_law_49 (by decide) ?_
  refine V_ist4 dL_law_50 rfl (by decide) ?_
  exact V_widen (k := 2400) (n := 21000) (by decide) (by decide) (L_loop hl h1 r2 (by decide) hN fin 72 0 M7 L7 sNew _ _ (by omega) a4 ((a2.fr f8 (Or.inr (by decide))).fr f7 (Or.inr (by decide))) (WK.new.mono (by omega) (by omega)))
end C90

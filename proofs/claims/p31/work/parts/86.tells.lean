/-! ===== the law: a text is told ===== -/
theorem OK.txt {l : Launch} {n : Nat} {K : xKnd} {G : xRef} {M M' : xMem} {L L' : xLng} {o : Nat} {S S' : xSp} (hO : OK l n K G M L o S) (c : CRel M' L' o S') (e : S'.2.2 = S.2.2) : OK l n K G M' L' o S' := by
  obtain ⟨h1, h2, -, T, B, h3, h4⟩ := hO
  refine ⟨h1, h2, c, T, B, ?_, h4⟩
  unfold WFS at h3 ⊢
  rw [e]
  exact h3
section C86
variable {E : xEnv} {l : Launch} {n : Nat} {K : xKnd} {G : xRef} {M : xMem} {L : xLng} {o : Nat} {S : xSp}
set_option maxRecDepth 100000 in
set_option maxHeartbeats 4000000 in
theorem c_L_tells (hO : OK l n K G M L o S) (x : Int32) {y : Nat} (hy : y < 2 ^ 31) : Con E l Y_L_tells [.ref o, .int x, .int (nI y)] (false, n, K, G, M, L) (xJV (.int 1) (tAll S x (y % 19)) o n K G M L) xF := by
  have hx := hO.2.1.1
  obtain ⟨T, B, hw, -⟩ := hO.2.2.2
  have hm : y % 19 ≤ 18 := by omega
  have ey : nI y - nI y / 19 * 19 = nI (y % 19) := pkR y 19 hy (by decide) (by decide)
  refine Con.mk 3 mp_L_tells rfl (ls := [some (.ref o), some (.int x), some (.int (nI y)), none, none, none]) rfl (Nat.le_of_ble_eq_true rfl) ?_
  have loop : ∀ (d i : Nat) (M9 : xMem) (L9 : xLng) (o5 : Option Value), i + d = y % 19 → CRel M9 L9 o (tAll S x i) → Fr o M L M9 L9 → V E l Y_L_tells (xQm E Y_L_tells (xJV (.int 1) (tAll S x (y % 19)) o n K G M L) xF) (false, n, K, G, M9, L9) (1 + 5 * i, 6 + 30 * i) 27 [some (.ref o), some (.int x), some (.int (nI y)), some (.int 1), some (.int (nI i)), o5] [] := by
    intro d
    induction d with
    | zero =>
      intro i M9 L9 o5 hi c9 f9
      have ei : i = y % 19 := by omega
      subst ei
      refine V_ild4 dL_tells_27 ?_
      refine V_ild2 dL_tells_29 ?_
      refine V_bipush (v := 19) dL_tells_30 (by decide) ?_
      refine V_irem dL_tells_32 (by decide) ?_
      rw [ey]
      refine V_yt_ge (tgt := 244) dL_tells_33 (by decide) (Int32.lt_irrefl) ?_
      refine V_ild3 dL_tells_244 ?_
      refine V_xf_eq (tgt := 261) dL_tells_245 (by decide) (by decide) ?_
      refine V_ald0 dL_tells_248 ?_
      refine V_cv0R lk_L_199 cc_X5_errorPosition dL_tells_249 (by assumption) (c_X5_errorPosition hO.2.1 c9) (xFit.mk (by decide) (by decide) (by first | decide | (show _ ≤ 120; dsimp only; omega)) (by first | decide | (show _ ≤ 720; dsimp only; omega))) rfl rfl (Nat.le_of_ble_eq_true rfl) ?_
      refine V_bipush (v := (-9)) dL_tells_252 (by decide) ?_
      refine V_yf_ne (tgt := 261) dL_tells_254 (by decide) (tAll_storm hm) ?_
      refine V_iconst (v := 1) dL_tells_257 (by decide) ?_
      refine V_goto (tgt := 262) dL_tells_258 (by decide) ?_
      exact V_zret rfl dL_tells_262 (Or.inr rfl) (by first | decide | (show _ ≤ 120; dsimp only; omega)) (by first | decide | (show _ ≤ 720; dsimp only; omega)) ⟨rfl, _, _, rfl, c9, f9⟩
    | succ d ih =>
      intro i M9 L9 o5 hi c9 f9
      have hi18 : i < 18 := by omega
      obtain ⟨r1, r2, r3, r4, -⟩ := tAll_r (S := S) (x := x) i
      have h9 : OK l n K G M9 L9 o (tAll S x i) := hO.txt c9 r1
      have ei : nI i - nI i / 16 * 16 = nI (i % 16) := pkR i 16 (by omega) (by decide) (by decide)
      have ev : (x >>> (nI (i % 16) &&& 31)) &&& 32767 = nI ((x >>> (nI (i % 16) &&& 31)).toBitVec.toNat % 2 ^ 15) := pk_and _ 15 (by decide)
      have e37 : (37 : Int32) * nI i = nI (37 * i) := pk_mul 37 i
      have et : nI ((x >>> (nI (i % 16) &&& 31)).toBitVec.toNat % 2 ^ 15) + nI (37 * i) = nI (vT x i) := nI_add _ _
      have hv : vT x i < 2 ^ 30 := by
        unfold vT
        have := Nat.mod_lt (x >>> (nI (i % 16) &&& 31)).toBitVec.toNat (show 0 < 2 ^ 15 by decide)
        omega
      have goal : ∀ (M8 : xMem) (L8 : xLng), CRel M8 L8 o (tPart (tAll S x i) (vT x i)) → Fr o M9 L9 M8 L8 → V E l Y_L_tells (xQm E Y_L_tells (xJV (.int 1) (tAll S x (y % 19)) o n K G M L) xF) (false, n, K, G, M8, L8) (1 + 5 * i + 5, 6 + 30 * i + 30) 237 [some (.ref o), some (.int x), some (.int (nI y)), some (.int 1), some (.int (nI i)), some (.int (nI (vT x i)))] [.int 1] := by
        intro M8 L8 c8 f8
        refine V_ist3 dL_tells_237 rfl (by decide) ?_
        refine V_inc4 dL_tells_238 rfl (nI_1 _) ?_
        refine V_goto (tgt := 27) dL_tells_241 (by decide) ?_
        refine V_widen (k := 1 + 5 * (i + 1)) (n := 6 + 30 * (i + 1)) (by dsimp only; omega) (by dsimp only; omega) (ih (i + 1) M8 L8 _ (by omega) c8 (f9.trans f8))
      generalize hvv : vT x i = v at *
      have e9 : nI v - nI v / 9 * 9 = nI (v % 9) := pkR v 9 (by omega) (by decide) (by decide)
      have q9 : nI v / 9 = nI (v / 9) := pkD v 9 (by omega) (by decide) (by decide)
      have q63 : nI v / 63 = nI (v / 63) := pkD v 63 (by omega) (by decide) (by decide)
      have q41 : nI (v / 9) - nI (v / 9) / 41 * 41 = nI (v / 9 % 41) := pkR _ 41 (by omega) (by decide) (by decide)
      have q21 : nI (v / 9) - nI (v / 9) / 21 * 21 = nI (v / 9 % 21) := pkR _ 21 (by omega) (by decide) (by decide)
      have q99 : nI (v / 9) - nI (v / 9) / 99 * 99 = nI (v / 9 % 99) := pkR _ 99 (by omega) (by decide) (by decide)
      have q7 : nI (v / 9) - nI (v / 9) / 7 * 7 = nI (v / 9 % 7) := pkR _ 7 (by omega) (by decide) (by decide)
      have q60 : nI (v / 63) - nI (v / 63) / 60 * 60 = nI (v / 63 % 60) := pkR _ 60 (by omega) (by decide) (by decide)
      have p99 : (1 : Int32) + nI (v / 9 % 99) = nI (1 + v / 9 % 99) := nI_add 1 _
      have p60 : (1 : Int32) + nI (v / 63 % 60) = nI (1 + v / 63 % 60) := nI_add 1 _
      have nn : ∀ a b : Nat, a < 9 → b < 9 → ¬ a = b → ¬ nI a = nI b := fun a b ha hb h q => h ((nI_eq (by omega) (by omega)).mp q)
      have m9 : v % 9 < 9 := by omega
      by_cases c0 : v % 9 = 0
      · refine V_ild4 dL_tells_27 ?_
        refine V_ild2 dL_tells_29 ?_
        refine V_bipush (v := 19) dL_tells_30 (by decide) ?_
        refine V_irem dL_tells_32 (by decide) ?_
        rw [ey]
        refine V_yf_ge (tgt := 244) dL_tells_33 (by decide) (nI_lt (by omega) (by omega)) ?_
        refine V_ild3 dL_tells_36 ?_
        refine V_xf_eq (tgt := 244) dL_tells_37 (by decide) (by decide) ?_
        refine V_ild1 dL_tells_40 ?_
        refine V_ild4 dL_tells_41 ?_
        refine V_bipush (v := 16) dL_tells_43 (by decide) ?_
        refine V_irem dL_tells_45 (by decide) ?_
        rw [ei]
        refine V_ishr dL_tells_46 ?_
        refine V_sipush (v := 32767) dL_tells_47 (by decide) ?_
        refine V_iand dL_tells_50 ?_
        rw [ev]
        refine V_bipush (v := 37) dL_tells_51 (by decide) ?_
        refine V_ild4 dL_tells_53 ?_
        refine V_imul dL_tells_55 ?_
        rw [e37]
        refine V_iadd dL_tells_56 ?_
        rw [et]
        refine V_ist5 dL_tells_57 rfl (by decide) ?_
        refine V_ild5 dL_tells_59 ?_
        refine V_bipush (v := 9) dL_tells_61 (by decide) ?_
        refine V_irem dL_tells_63 (by decide) ?_
        rw [e9]
        refine V_xf_ne (tgt := 101) dL_tells_64 (by decide) (by rw [c0]; rfl) ?_
        refine V_ald0 dL_tells_67 ?_
        refine V_bipush (v := 116) dL_tells_68 (by decide) ?_
        refine V_ch2J (Y' := Y_L_append) ml_L_164 ch_L_append dL_tells_70 ((k_append h9 _).jval (lApp_0 (j := 116) (by omega) (by decide)) (sApp_0 (j := 116) (by omega) (by decide))) (by decide) (by decide) (by first | decide | (show _ ≤ 120; dsimp only; omega)) (by first | decide | (show _ ≤ 720; dsimp only; omega)) (Nat.le_of_ble_eq_true rfl) (fun M8 L8 c8 f8 => ?_)
        have h8 : OK l n K G M8 L8 o (sText (tAll S x i) 116) := h9.txt c8 rfl
        refine V_lconst (v := 0) dL_tells_73 (by decide) ?_
        refine V_zf_le (tgt := 97) dL_tells_74 dL_tells_75 (by decide) (lN_pos (by omega) (by omega)) ?_
        refine V_ald0 dL_tells_78 ?_
        refine V_ild5 dL_tells_79 ?_
        refine V_bipush (v := 9) dL_tells_81 (by decide) ?_
        refine V_idiv dL_tells_83 (by decide) ?_
        refine V_bipush (v := 41) dL_tells_84 (by decide) ?_
        refine V_irem dL_tells_86 (by decide) ?_
        rw [q9, q41]
        refine V_cs2J lk_L_207 cc_L_types dL_tells_87 (c_L_types h8 (k := v / 9 % 41) (by omega) (show (sText (tAll S x i) 116).1 + 2 ≤ 100 by show (tAll S x i).1 + 1 + 2 ≤ 100; omega)) (xFit.mk (by decide) (by decide) (by first | decide | (show _ ≤ 120; dsimp only; omega)) (by first | decide | (show _ ≤ 720; dsimp only; omega))) (Nat.le_of_ble_eq_true rfl) (fun M7 L7 c7 f7 => ?_)
        refine V_xf_eq (tgt := 97) dL_tells_90 (by decide) (by decide) ?_
        refine V_iconst (v := 1) dL_tells_93 (by decide) ?_
        refine V_goto (tgt := 237) dL_tells_94 (by decide) ?_
        refine V_widen (k := 1 + 5 * i + 5) (n := 6 + 30 * i + 30) (by dsimp only; omega) (by dsimp only; omega) (goal M7 L7 (by unfold tPart; rw [if_pos c0]; exact c7) (f8.trans f7))
      by_cases c1 : v % 9 = 1
      · refine V_ild4 dL_tells_27 ?_
        refine V_ild2 dL_tells_29 ?_
        refine V_bipush (v := 19) dL_tells_30 (by decide) ?_
        refine V_irem dL_tells_32 (by decide) ?_
        rw [ey]
        refine V_yf_ge (tgt := 244) dL_tells_33 (by decide) (nI_lt (by omega) (by omega)) ?_
        refine V_ild3 dL_tells_36 ?_
        refine V_xf_eq (tgt := 244) dL_tells_37 (by decide) (by decide) ?_
        refine V_ild1 dL_tells_40 ?_
        refine V_ild4 dL_tells_41 ?_
        refine V_bipush (v := 16) dL_tells_43 (by decide) ?_
        refine V_irem dL_tells_45 (by decide) ?_
        rw [ei]
        refine V_ishr dL_tells_46 ?_
        refine V_sipush (v := 32767) dL_tells_47 (by decide) ?_
        refine V_iand dL_tells_50 ?_
        rw [ev]
        refine V_bipush (v := 37) dL_tells_51 (by decide) ?_
        refine V_ild4 dL_tells_53 ?_
        refine V_imul dL_tells_55 ?_
        rw [e37]
        refine V_iadd dL_tells_56 ?_
        rw [et]
        refine V_ist5 dL_tells_57 rfl (by decide) ?_
        refine V_ild5 dL_tells_59 ?_
        refine V_bipush (v := 9) dL_tells_61 (by decide) ?_
        refine V_irem dL_tells_63 (by decide) ?_
        rw [e9]
        refine V_xt_ne (tgt := 101) dL_tells_64 (by decide) (nn _ 0 m9 (by decide) c0) ?_
        refine V_ild5 dL_tells_101 ?_
        refine V_bipush (v := 9) dL_tells_103 (by decide) ?_
        refine V_irem dL_tells_105 (by decide) ?_
        refine V_iconst (v := 1) dL_tells_106 (by decide) ?_
        rw [e9]
        refine V_yf_ne (tgt := 144) dL_tells_107 (by decide) (by rw [c1]; rfl) ?_
        refine V_ald0 dL_tells_110 ?_
        refine V_bipush (v := 119) dL_tells_111 (by decide) ?_
        refine V_ch2J (Y' := Y_L_append) ml_L_164 ch_L_append dL_tells_113 ((k_append h9 _).jval (lApp_0 (j := 119) (by omega) (by decide)) (sApp_0 (j := 119) (by omega) (by decide))) (by decide) (by decide) (by first | decide | (show _ ≤ 120; dsimp only; omega)) (by first | decide | (show _ ≤ 720; dsimp only; omega)) (Nat.le_of_ble_eq_true rfl) (fun M8 L8 c8 f8 => ?_)
        have h8 : OK l n K G M8 L8 o (sText (tAll S x i) 119) := h9.txt c8 rfl
        refine V_lconst (v := 0) dL_tells_116 (by decide) ?_
        refine V_zf_le (tgt := 140) dL_tells_117 dL_tells_118 (by decide) (lN_pos (by omega) (by omega)) ?_
        refine V_ald0 dL_tells_121 ?_
        refine V_ild5 dL_tells_122 ?_
        refine V_bipush (v := 9) dL_tells_124 (by decide) ?_
        refine V_idiv dL_tells_126 (by decide) ?_
        refine V_bipush (v := 21) dL_tells_127 (by decide) ?_
        refine V_irem dL_tells_129 (by decide) ?_
        rw [q9, q21]
        refine V_cs2J lk_L_207 cc_L_types dL_tells_130 (c_L_types h8 (k := v / 9 % 21) (by omega) (show (sText (tAll S x i) 119).1 + 2 ≤ 100 by show (tAll S x i).1 + 1 + 2 ≤ 100; omega)) (xFit.mk (by decide) (by decide) (by first | decide | (show _ ≤ 120; dsimp only; omega)) (by first | decide | (show _ ≤ 720; dsimp only; omega))) (Nat.le_of_ble_eq_true rfl) (fun M7 L7 c7 f7 => ?_)
        refine V_xf_eq (tgt := 140) dL_tells_133 (by decide) (by decide) ?_
        refine V_iconst (v := 1) dL_tells_136 (by decide) ?_
        refine V_goto (tgt := 237) dL_tells_137 (by decide) ?_
        refine V_widen (k := 1 + 5 * i + 5) (n := 6 + 30 * i + 30) (by dsimp only; omega) (by dsimp only; omega) (goal M7 L7 (by unfold tPart; rw [if_neg c0, if_pos c1]; exact c7) (f8.trans f7))
      by_cases c2 : v % 9 = 2
      · refine V_ild4 dL_tells_27 ?_
        refine V_ild2 dL_tells_29 ?_
        refine V_bipush (v := 19) dL_tells_30 (by decide) ?_
        refine V_irem dL_tells_32 (by decide) ?_
        rw [ey]
        refine V_yf_ge (tgt := 244) dL_tells_33 (by decide) (nI_lt (by omega) (by omega)) ?_
        refine V_ild3 dL_tells_36 ?_
        refine V_xf_eq (tgt := 244) dL_tells_37 (by decide) (by decide) ?_
        refine V_ild1 dL_tells_40 ?_
        refine V_ild4 dL_tells_41 ?_
        refine V_bipush (v := 16) dL_tells_43 (by decide) ?_
        refine V_irem dL_tells_45 (by decide) ?_
        rw [ei]
        refine V_ishr dL_tells_46 ?_
        refine V_sipush (v := 32767) dL_tells_47 (by decide) ?_
        refine V_iand dL_tells_50 ?_
        rw [ev]
        refine V_bipush (v := 37) dL_tells_51 (by decide) ?_
        refine V_ild4 dL_tells_53 ?_
        refine V_imul dL_tells_55 ?_
        rw [e37]
        refine V_iadd dL_tells_56 ?_
        rw [et]
        refine V_ist5 dL_tells_57 rfl (by decide) ?_
        refine V_ild5 dL_tells_59 ?_
        refine V_bipush (v := 9) dL_tells_61 (by decide) ?_
        refine V_irem dL_tells_63 (by decide) ?_
        rw [e9]
        refine V_xt_ne (tgt := 101) dL_tells_64 (by decide) (nn _ 0 m9 (by decide) c0) ?_
        refine V_ild5 dL_tells_101 ?_
        refine V_bipush (v := 9) dL_tells_103 (by decide) ?_
        refine V_irem dL_tells_105 (by decide) ?_
        refine V_iconst (v := 1) dL_tells_106 (by decide) ?_
        rw [e9]
        refine V_yt_ne (tgt := 144) dL_tells_107 (by decide) (nn _ 1 m9 (by decide) c1) ?_
        refine V_ild5 dL_tells_144 ?_
        refine V_bipush (v := 9) dL_tells_146 (by decide) ?_
        refine V_irem dL_tells_148 (by decide) ?_
        refine V_iconst (v := 2) dL_tells_149 (by decide) ?_
        rw [e9]
        refine V_yf_ne (tgt := 189) dL_tells_150 (by decide) (by rw [c2]; rfl) ?_
        refine V_ald0 dL_tells_153 ?_
        refine V_bipush (v := 112) dL_tells_154 (by decide) ?_
        refine V_ch2J (Y' := Y_L_append) ml_L_164 ch_L_append dL_tells_156 ((k_append h9 _).jval (lApp_0 (j := 112) (by omega) (by decide)) (sApp_0 (j := 112) (by omega) (by decide))) (by decide) (by decide) (by first | decide | (show _ ≤ 120; dsimp only; omega)) (by first | decide | (show _ ≤ 720; dsimp only; omega)) (Nat.le_of_ble_eq_true rfl) (fun M8 L8 c8 f8 => ?_)
        have h8 : OK l n K G M8 L8 o (sText (tAll S x i) 112) := h9.txt c8 rfl
        refine V_lconst (v := 0) dL_tells_159 (by decide) ?_
        refine V_zf_le (tgt := 185) dL_tells_160 dL_tells_161 (by decide) (lN_pos (by omega) (by omega)) ?_
        refine V_ald0 dL_tells_164 ?_
        refine V_iconst (v := 1) dL_tells_165 (by decide) ?_
        refine V_ild5 dL_tells_166 ?_
        refine V_bipush (v := 9) dL_tells_168 (by decide) ?_
        refine V_idiv dL_tells_170 (by decide) ?_
        refine V_bipush (v := 99) dL_tells_171 (by decide) ?_
        refine V_irem dL_tells_173 (by decide) ?_
        refine V_iadd dL_tells_174 ?_
        rw [q9, q99, p99]
        refine V_cs2J lk_L_207 cc_L_types dL_tells_175 (c_L_types h8 (k := 1 + v / 9 % 99) (by omega) (show (sText (tAll S x i) 112).1 + 2 ≤ 100 by show (tAll S x i).1 + 1 + 2 ≤ 100; omega)) (xFit.mk (by decide) (by decide) (by first | decide | (show _ ≤ 120; dsimp only; omega)) (by first | decide | (show _ ≤ 720; dsimp only; omega))) (Nat.le_of_ble_eq_true rfl) (fun M7 L7 c7 f7 => ?_)
        refine V_xf_eq (tgt := 185) dL_tells_178 (by decide) (by decide) ?_
        refine V_iconst (v := 1) dL_tells_181 (by decide) ?_
        refine V_goto (tgt := 237) dL_tells_182 (by decide) ?_
        refine V_widen (k := 1 + 5 * i + 5) (n := 6 + 30 * i + 30) (by dsimp only; omega) (by dsimp only; omega) (goal M7 L7 (by unfold tPart; rw [if_neg c0, if_neg c1, if_pos c2]; exact c7) (f8.trans f7))
      refine V_ild4 dL_tells_27 ?_
      refine V_ild2 dL_tells_29 ?_
      refine V_bipush (v := 19) dL_tells_30 (by decide) ?_
      refine V_irem dL_tells_32 (by decide) ?_
      rw [ey]
      refine V_yf_ge (tgt := 244) dL_tells_33 (by decide) (nI_lt (by omega) (by omega)) ?_
      refine V_ild3 dL_tells_36 ?_
      refine V_xf_eq (tgt := 244) dL_tells_37 (by decide) (by decide) ?_
      refine V_ild1 dL_tells_40 ?_
      refine V_ild4 dL_tells_41 ?_
      refine V_bipush (v := 16) dL_tells_43 (by decide) ?_
      refine V_irem dL_tells_45 (by decide) ?_
      rw [ei]
      refine V_ishr dL_tells_46 ?_
      refine V_sipush (v := 32767) dL_tells_47 (by decide) ?_
      refine V_iand dL_tells_50 ?_
      rw [ev]
      refine V_bipush (v := 37) dL_tells_51 (by decide) ?_
      refine V_ild4 dL_tells_53 ?_
      refine V_imul dL_tells_55 ?_
      rw [e37]
      refine V_iadd dL_tells_56 ?_
      rw [et]
      refine V_ist5 dL_tells_57 rfl (by decide) ?_
      refine V_ild5 dL_tells_59 ?_
      refine V_bipush (v := 9) dL_tells_61 (by decide) ?_
      refine V_irem dL_tells_63 (by decide) ?_
      rw [e9]
      refine V_xt_ne (tgt := 101) dL_tells_64 (by decide) (nn _ 0 m9 (by decide) c0) ?_
      refine V_ild5 dL_tells_101 ?_
      refine V_bipush (v := 9) dL_tells_103 (by decide) ?_
      refine V_irem dL_tells_105 (by decide) ?_
      refine V_iconst (v := 1) dL_tells_106 (by decide) ?_
      rw [e9]
      refine V_yt_ne (tgt := 144) dL_tells_107 (by decide) (nn _ 1 m9 (by decide) c1) ?_
      refine V_ild5 dL_tells_144 ?_
      refine V_bipush (v := 9) dL_tells_146 (by decide) ?_
      refine V_irem dL_tells_148 (by decide) ?_
      refine V_iconst (v := 2) dL_tells_149 (by decide) ?_
      rw [e9]
      refine V_yt_ne (tgt := 189) dL_tells_150 (by decide) (nn _ 2 m9 (by decide) c2) ?_
      refine V_ald0 dL_tells_189 ?_
      refine V_bipush (v := 100) dL_tells_190 (by decide) ?_
      refine V_ch2J (Y' := Y_L_append) ml_L_164 ch_L_append dL_tells_192 ((k_append h9 _).jval (lApp_0 (j := 100) (by omega) (by decide)) (sApp_0 (j := 100) (by omega) (by decide))) (by decide) (by decide) (by first | decide | (show _ ≤ 120; dsimp only; omega)) (by first | decide | (show _ ≤ 720; dsimp only; omega)) (Nat.le_of_ble_eq_true rfl) (fun M8 L8 c8 f8 => ?_)
      have h8 : OK l n K G M8 L8 o (sText (tAll S x i) 100) := h9.txt c8 rfl
      refine V_lconst (v := 0) dL_tells_195 (by decide) ?_
      refine V_zf_le (tgt := 236) dL_tells_196 dL_tells_197 (by decide) (lN_pos (by omega) (by omega)) ?_
      refine V_ald0 dL_tells_200 ?_
      refine V_ild5 dL_tells_201 ?_
      refine V_bipush (v := 9) dL_tells_203 (by decide) ?_
      refine V_idiv dL_tells_205 (by decide) ?_
      refine V_bipush (v := 7) dL_tells_206 (by decide) ?_
      refine V_irem dL_tells_208 (by decide) ?_
      rw [q9, q7]
      refine V_cs2J lk_L_207 cc_L_types dL_tells_209 (c_L_types h8 (k := v / 9 % 7) (by omega) (show (sText (tAll S x i) 100).1 + 2 ≤ 100 by show (tAll S x i).1 + 1 + 2 ≤ 100; omega)) (xFit.mk (by decide) (by decide) (by first | decide | (show _ ≤ 120; dsimp only; omega)) (by first | decide | (show _ ≤ 720; dsimp only; omega))) (Nat.le_of_ble_eq_true rfl) (fun M7 L7 c7 f7 => ?_)
      have h7 : OK l n K G M7 L7 o (sTwo (sText (tAll S x i) 100) (v / 9 % 7)) := h8.txt c7 rfl
      refine V_xf_eq (tgt := 236) dL_tells_212 (by decide) (by decide) ?_
      refine V_ald0 dL_tells_215 ?_
      refine V_iconst (v := 1) dL_tells_216 (by decide) ?_
      refine V_ild5 dL_tells_217 ?_
      refine V_bipush (v := 63) dL_tells_219 (by decide) ?_
      refine V_idiv dL_tells_221 (by decide) ?_
      refine V_bipush (v := 60) dL_tells_222 (by decide) ?_
      refine V_irem dL_tells_224 (by decide) ?_
      refine V_iadd dL_tells_225 ?_
      rw [q63, q60, p60]
      refine V_cs2J lk_L_207 cc_L_types dL_tells_226 (c_L_types h7 (k := 1 + v / 63 % 60) (by omega) (show (sTwo (sText (tAll S x i) 100) (v / 9 % 7)).1 + 2 ≤ 100 by show (tAll S x i).1 + 1 + 1 + 1 + 2 ≤ 100; omega)) (xFit.mk (by decide) (by decide) (by first | decide | (show _ ≤ 120; dsimp only; omega)) (by first | decide | (show _ ≤ 720; dsimp only; omega))) (Nat.le_of_ble_eq_true rfl) (fun M6 L6 c6 f6 => ?_)
      refine V_xf_eq (tgt := 236) dL_tells_229 (by decide) (by decide) ?_
      refine V_iconst (v := 1) dL_tells_232 (by decide) ?_
      refine V_goto (tgt := 237) dL_tells_233 (by decide) ?_
      refine V_widen (k := 1 + 5 * i + 5) (n := 6 + 30 * i + 30) (by dsimp only; omega) (by dsimp only; omega) (goal M6 L6 (by unfold tPart; rw [if_neg c0, if_neg c1, if_neg c2]; exact c6) (f8.trans (f7.trans f6)))
  refine V_ald0 dL_tells_0 ?_
  refine V_cv0J lk_L_204 cc_X5_clearText dL_tells_1 (by assumption) (c_X5_clearTextG hO.2.1 hO.2.2.1) (xFit.mk (by decide) (by decide) (by first | decide | (show _ ≤ 120; dsimp only; omega)) (by first | decide | (show _ ≤ 720; dsimp only; omega))) rfl rfl (Nat.le_of_ble_eq_true rfl) (fun M9 L9 c9 f9 => ?_)
  have h9 : OK l n K G M9 L9 o (sWipe S) := hO.txt c9 rfl
  have l1 := hO.2.2.1.1.2
  refine V_xf_lt (tgt := 22) dL_tells_4 (by decide) (nI_pos (by omega)) ?_
  refine V_ald0 dL_tells_7 ?_
  refine V_bipush (v := 80) dL_tells_8 (by decide) ?_
  refine V_ch2J (Y' := Y_L_append) ml_L_164 ch_L_append dL_tells_10 ((k_append h9 _).jval (lApp_0 (S := sWipe S) (j := 80) (show 0 < 100 by decide) (by decide)) (sApp_0 (S := sWipe S) (j := 80) (show 0 < 100 by decide) (by decide))) (by decide) (by decide) (by first | decide | (show _ ≤ 120; dsimp only; omega)) (by first | decide | (show _ ≤ 720; dsimp only; omega)) (Nat.le_of_ble_eq_true rfl) (fun M8 L8 c8 f8 => ?_)
  refine V_lconst (v := 1) dL_tells_13 (by decide) ?_
  refine V_zf_ne (tgt := 22) dL_tells_14 dL_tells_15 (by decide) (rfl) ?_
  refine V_iconst (v := 1) dL_tells_18 (by decide) ?_
  refine V_goto (tgt := 23) dL_tells_19 (by decide) ?_
  refine V_ist3 dL_tells_23 rfl (by decide) ?_
  refine V_iconst (v := 0) dL_tells_24 (by decide) ?_
  refine V_ist4 dL_tells_25 rfl (by decide) ?_
  exact loop (y % 19) 0 M8 L8 _ (by omega) c8 (f9.trans f8)
end C86

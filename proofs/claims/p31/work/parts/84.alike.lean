/-! ===== the law: two plates that tell the same; one action; two digits ===== -/
section P84
variable {l : Launch} {n : Nat} {K : xKnd} {G : xRef} {M M' : xMem} {L L' : xLng} {o o2 : Nat} {S S2 : xSp}
theorem OK.fr (hO : OK l n K G M L o2 S) (f : Fr o M L M' L') (d : o2 + 288 < o ∨ o + 288 < o2) : OK l n K G M' L' o2 S := hO.go (hO.2.2.1.fr f d)
/-- behind it both still tell the same -/
def xJ2 (v : Value) (S S2 : xSp) (o o2 n : Nat) (K : xKnd) (G : xRef) : xP := fun r q' => r = some v ∧ ∃ M' L', q' = (false, n, K, G, M', L') ∧ CRel M' L' o S ∧ CRel M' L' o2 S2
abbrev ir (a b : Int32) : Int32 := a - a / b * b
/-- what an action answers, and what it leaves -/
def actK (S : xSp) (k y : Int32) : Int64 × xSp :=
  if k = 0 then (lSet S 0 (ir y 41), sSet S 0 (ir y 41))
  else if k = 1 then (lSet S 1 (ir y 21), sSet S 1 (ir y 21))
  else if k = 2 then (lSet S (2 + ir y 2) (1 + ir (y / 2) 9), sSet S (2 + ir y 2) (1 + ir (y / 2) 9))
  else if k = 3 then (lSet S 4 (500 + ir y 4501), sSet S 4 (500 + ir y 4501))
  else if k = 4 then (if ir y 3 = 0 then (lSetBorder S (1 + ir y 7) (ir (y / 7) 5001), sSetBorder S (1 + ir y 7) (ir (y / 7) 5001)) else (lSetBorder S (1 + ir y 7) ((lBin S.2.2.1 (1 + ir y 7) 0).toInt32 - 9 + ir (y / 21) 19), sSetBorder S (1 + ir y 7) ((lBin S.2.2.1 (1 + ir y 7) 0).toInt32 - 9 + ir (y / 21) 19)))
  else if k = 5 then (if ir y 3 = 0 then ((rInB S.2.2.1 0).toInt64, sNow (sPush S) (rEmp S.2.2.1)) else (lUndo S, sUndo S))
  else if k = 6 then (if ir y 2 = 0 then (lSave S (y / 2 &&& 1), sSave S (y / 2 &&& 1)) else (lRestore S (y / 2 &&& 1), sRestore S (y / 2 &&& 1)))
  else if k = 7 ∨ k = 8 then (lPass S (1 + ir y 40), sPass S (1 + ir y 40))
  else if ir y 4 = 0 then (lDrop S (ir (y / 4) 100) (1 + ir (y / 400) 60), sDrop S (ir (y / 4) 100) (1 + ir (y / 400) 60)) else (lDrop S (ir (y / 4) 6) (1 + ir (y / 400) 60), sDrop S (ir (y / 4) 6) (1 + ir (y / 400) 60))
def aAct (S : xSp) (x y : Int32) : Int64 × xSp := actK S (ir x 18) y
theorem act_mk {p : Int64 × xSp} {v : Int64} {S' : xSp} (e : p = (v, S')) (c : CRel M' L' o S') (f : Fr o M L M' L') : xJ p.1 p.2 o n K G M L (some (.long v)) (false, n, K, G, M', L') := by
  subst e; exact ⟨rfl, _, _, rfl, c, f⟩
theorem kdApp_0 {j : Nat} (h : S.1 < 100) (hj : j ≤ 255) : kdApp S (nI j) = 0 := by
  unfold kdApp
  rw [if_neg (fun q => q.elim (nI_pos (by omega)) (fun q => nI_nlt (a := 255) hj (by decide) q)), if_pos h]
theorem lApp_0 {j : Nat} (h : S.1 < 100) (hj : j ≤ 255) : lAppend S (nI j) = lN (S.1 + 1) := by
  unfold lAppend
  rw [lC_0 (kdApp_0 h hj), nI_l (by omega)]
theorem sApp_0 {j : Nat} (h : S.1 < 100) (hj : j ≤ 255) : sAppend S (nI j) = sText S (nI j) := by
  unfold sAppend
  rw [if_pos (kdApp_0 h hj)]
theorem lN_pos {k : Nat} (h : 0 < k) (h2 : k < 2 ^ 31) : (0 : Int64) < lN k := (lN_lt (a := 0) (by decide) h2).mpr h
end P84
section C84
variable {E : xEnv} {l : Launch} {n : Nat} {K : xKnd} {G : xRef} {M : xMem} {L : xLng} {o o1 o2 : Nat} {S : xSp}
set_option maxRecDepth 100000 in
set_option maxHeartbeats 4000000 in
theorem c_L_alike (hA : OK l n K G M L o1 S) (hB : OK l n K G M L o2 S) (hd : o1 + 288 < o2) (p : Int32) : Con E l Y_L_alike [.ref o1, .ref o2, .int p] (false, n, K, G, M, L) (xJ2 (.int 1) S S o1 o2 n K G) xF := by
  have hx1 := hA.2.1.1
  have hx2 := hB.2.1.1
  refine Con.mk 0 mp_L_alike rfl (ls := [some (.ref o1), some (.ref o2), some (.int p)]) rfl (Nat.le_of_ble_eq_true rfl) ?_
  refine V_ald0 dL_alike_0 ?_
  refine V_cs1RA lk_L_122 cc_L_now dL_alike_1 (c_L_now hA) (xFit.mk (by decide) (by decide) (by first | decide | (show _ ≤ 450; dsimp only; omega)) (by first | decide | (show _ ≤ 2700; dsimp only; omega))) (Nat.le_of_ble_eq_true rfl) ?_
  refine V_ald1 dL_alike_4 ?_
  refine V_cs1RA lk_L_122 cc_L_now dL_alike_5 (c_L_now hB) (xFit.mk (by decide) (by decide) (by first | decide | (show _ ≤ 450; dsimp only; omega)) (by first | decide | (show _ ≤ 2700; dsimp only; omega))) (Nat.le_of_ble_eq_true rfl) ?_
  refine V_zf_ne (tgt := 229) dL_alike_8 dL_alike_9 (by decide) (rfl) ?_
  refine V_ald0 dL_alike_12 ?_
  refine V_cv0R lk_L_199 cc_X5_errorPosition dL_alike_13 (by assumption) (c_X5_errorPosition hA.2.1 hA.2.2.1) (xFit.mk (by decide) (by decide) (by first | decide | (show _ ≤ 450; dsimp only; omega)) (by first | decide | (show _ ≤ 2700; dsimp only; omega))) rfl rfl (Nat.le_of_ble_eq_true rfl) ?_
  refine V_ald1 dL_alike_16 ?_
  refine V_cv0R lk_L_199 cc_X5_errorPosition dL_alike_17 (by assumption) (c_X5_errorPosition hB.2.1 hB.2.2.1) (xFit.mk (by decide) (by decide) (by first | decide | (show _ ≤ 450; dsimp only; omega)) (by first | decide | (show _ ≤ 2700; dsimp only; omega))) rfl rfl (Nat.le_of_ble_eq_true rfl) ?_
  refine V_yf_ne (tgt := 229) dL_alike_20 (by decide) (rfl) ?_
  refine V_ald0 dL_alike_23 ?_
  refine V_ild2 dL_alike_24 ?_
  refine V_iconst (v := 3) dL_alike_25 (by decide) ?_
  refine V_irem dL_alike_26 (by decide) ?_
  refine V_ch2R (Y' := Y_L_rain) ml_L_130 ch_L_rain dL_alike_27 (k_rain hA _ ) (by decide) (by decide) (by first | decide | (show _ ≤ 450; dsimp only; omega)) (by first | decide | (show _ ≤ 2700; dsimp only; omega)) (Nat.le_of_ble_eq_true rfl) ?_
  refine V_ald1 dL_alike_30 ?_
  refine V_ild2 dL_alike_31 ?_
  refine V_iconst (v := 3) dL_alike_32 (by decide) ?_
  refine V_irem dL_alike_33 (by decide) ?_
  refine V_ch2R (Y' := Y_L_rain) ml_L_130 ch_L_rain dL_alike_34 (k_rain hB _ ) (by decide) (by decide) (by first | decide | (show _ ≤ 450; dsimp only; omega)) (by first | decide | (show _ ≤ 2700; dsimp only; omega)) (Nat.le_of_ble_eq_true rfl) ?_
  refine V_zf_ne (tgt := 229) dL_alike_37 dL_alike_38 (by decide) (rfl) ?_
  refine V_ald0 dL_alike_41 ?_
  refine V_ild2 dL_alike_42 ?_
  refine V_bipush (v := 100) dL_alike_43 (by decide) ?_
  refine V_irem dL_alike_45 (by decide) ?_
  refine V_iconst (v := 1) dL_alike_46 (by decide) ?_
  refine V_ild2 dL_alike_47 ?_
  refine V_bipush (v := 60) dL_alike_48 (by decide) ?_
  refine V_irem dL_alike_50 (by decide) ?_
  refine V_iadd dL_alike_51 ?_
  refine V_ch3R (Y' := Y_L_wouldBe) ml_L_140 ch_L_wouldBe dL_alike_52 (k_wouldBe hA _ _ ) (by decide) (by decide) (by first | decide | (show _ ≤ 450; dsimp only; omega)) (by first | decide | (show _ ≤ 2700; dsimp only; omega)) (Nat.le_of_ble_eq_true rfl) ?_
  refine V_ald1 dL_alike_55 ?_
  refine V_ild2 dL_alike_56 ?_
  refine V_bipush (v := 100) dL_alike_57 (by decide) ?_
  refine V_irem dL_alike_59 (by decide) ?_
  refine V_iconst (v := 1) dL_alike_60 (by decide) ?_
  refine V_ild2 dL_alike_61 ?_
  refine V_bipush (v := 60) dL_alike_62 (by decide) ?_
  refine V_irem dL_alike_64 (by decide) ?_
  refine V_iadd dL_alike_65 ?_
  refine V_ch3R (Y' := Y_L_wouldBe) ml_L_140 ch_L_wouldBe dL_alike_66 (k_wouldBe hB _ _ ) (by decide) (by decide) (by first | decide | (show _ ≤ 450; dsimp only; omega)) (by first | decide | (show _ ≤ 2700; dsimp only; omega)) (Nat.le_of_ble_eq_true rfl) ?_
  refine V_zf_ne (tgt := 229) dL_alike_69 dL_alike_70 (by decide) (rfl) ?_
  refine V_ald0 dL_alike_73 ?_
  refine V_ild2 dL_alike_74 ?_
  refine V_bipush (v := 9) dL_alike_75 (by decide) ?_
  refine V_irem dL_alike_77 (by decide) ?_
  refine V_ch2R (Y' := Y_L_leastSize) ml_L_142 ch_L_leastSize dL_alike_78 (k_leastSize hA _ ) (by decide) (by decide) (by first | decide | (show _ ≤ 450; dsimp only; omega)) (by first | decide | (show _ ≤ 2700; dsimp only; omega)) (Nat.le_of_ble_eq_true rfl) ?_
  refine V_ald1 dL_alike_81 ?_
  refine V_ild2 dL_alike_82 ?_
  refine V_bipush (v := 9) dL_alike_83 (by decide) ?_
  refine V_irem dL_alike_85 (by decide) ?_
  refine V_ch2R (Y' := Y_L_leastSize) ml_L_142 ch_L_leastSize dL_alike_86 (k_leastSize hB _ ) (by decide) (by decide) (by first | decide | (show _ ≤ 450; dsimp only; omega)) (by first | decide | (show _ ≤ 2700; dsimp only; omega)) (Nat.le_of_ble_eq_true rfl) ?_
  refine V_zf_ne (tgt := 229) dL_alike_89 dL_alike_90 (by decide) (rfl) ?_
  refine V_ald0 dL_alike_93 ?_
  refine V_ild2 dL_alike_94 ?_
  refine V_sipush (v := 500) dL_alike_95 (by decide) ?_
  refine V_irem dL_alike_98 (by decide) ?_
  refine V_ch2R (Y' := Y_L_quietIn) ml_L_144 ch_L_quietIn dL_alike_99 (k_quietIn hA _ ) (by decide) (by decide) (by first | decide | (show _ ≤ 450; dsimp only; omega)) (by first | decide | (show _ ≤ 2700; dsimp only; omega)) (Nat.le_of_ble_eq_true rfl) ?_
  refine V_ald1 dL_alike_102 ?_
  refine V_ild2 dL_alike_103 ?_
  refine V_sipush (v := 500) dL_alike_104 (by decide) ?_
  refine V_irem dL_alike_107 (by decide) ?_
  refine V_ch2R (Y' := Y_L_quietIn) ml_L_144 ch_L_quietIn dL_alike_108 (k_quietIn hB _ ) (by decide) (by decide) (by first | decide | (show _ ≤ 450; dsimp only; omega)) (by first | decide | (show _ ≤ 2700; dsimp only; omega)) (Nat.le_of_ble_eq_true rfl) ?_
  refine V_zf_ne (tgt := 229) dL_alike_111 dL_alike_112 (by decide) (rfl) ?_
  refine V_ald0 dL_alike_115 ?_
  refine V_ild2 dL_alike_116 ?_
  refine V_bipush (v := 21) dL_alike_117 (by decide) ?_
  refine V_irem dL_alike_119 (by decide) ?_
  refine V_iconst (v := 1) dL_alike_120 (by decide) ?_
  refine V_ild2 dL_alike_121 ?_
  refine V_bipush (v := 9) dL_alike_122 (by decide) ?_
  refine V_irem dL_alike_124 (by decide) ?_
  refine V_iadd dL_alike_125 ?_
  refine V_ild2 dL_alike_126 ?_
  refine V_iconst (v := 4) dL_alike_127 (by decide) ?_
  refine V_irem dL_alike_128 (by decide) ?_
  refine V_ch4J (Y' := Y_L_replay) ml_L_146 ch_L_replay dL_alike_129 (k_replay hA _ _ _) (by decide) (by decide) (by first | decide | (show _ ≤ 450; dsimp only; omega)) (by first | decide | (show _ ≤ 2700; dsimp only; omega)) (Nat.le_of_ble_eq_true rfl) (fun M9 L9 c9 f9 => ?_)
  have hB := hB.fr f9 (Or.inr (by omega))
  have hA := hA.go c9
  refine V_ald1 dL_alike_132 ?_
  refine V_ild2 dL_alike_133 ?_
  refine V_bipush (v := 21) dL_alike_134 (by decide) ?_
  refine V_irem dL_alike_136 (by decide) ?_
  refine V_iconst (v := 1) dL_alike_137 (by decide) ?_
  refine V_ild2 dL_alike_138 ?_
  refine V_bipush (v := 9) dL_alike_139 (by decide) ?_
  refine V_irem dL_alike_141 (by decide) ?_
  refine V_iadd dL_alike_142 ?_
  refine V_ild2 dL_alike_143 ?_
  refine V_iconst (v := 4) dL_alike_144 (by decide) ?_
  refine V_irem dL_alike_145 (by decide) ?_
  refine V_ch4J (Y' := Y_L_replay) ml_L_146 ch_L_replay dL_alike_146 (k_replay hB _ _ _) (by decide) (by decide) (by first | decide | (show _ ≤ 450; dsimp only; omega)) (by first | decide | (show _ ≤ 2700; dsimp only; omega)) (Nat.le_of_ble_eq_true rfl) (fun M9 L9 c9 f9 => ?_)
  have hA := hA.fr f9 (Or.inl (by omega))
  have hB := hB.go c9
  refine V_zf_ne (tgt := 229) dL_alike_149 dL_alike_150 (by decide) (rfl) ?_
  refine V_ald0 dL_alike_153 ?_
  refine V_ild2 dL_alike_154 ?_
  refine V_iconst (v := 3) dL_alike_155 (by decide) ?_
  refine V_irem dL_alike_156 (by decide) ?_
  refine V_ch2J (Y' := Y_L_bestWindow) ml_L_149 ch_L_bestWindow dL_alike_157 (k_bestWindow hA _) (by decide) (by decide) (by first | decide | (show _ ≤ 450; dsimp only; omega)) (by first | decide | (show _ ≤ 2700; dsimp only; omega)) (Nat.le_of_ble_eq_true rfl) (fun M9 L9 c9 f9 => ?_)
  have hB := hB.fr f9 (Or.inr (by omega))
  have hA := hA.go c9
  refine V_ald1 dL_alike_160 ?_
  refine V_ild2 dL_alike_161 ?_
  refine V_iconst (v := 3) dL_alike_162 (by decide) ?_
  refine V_irem dL_alike_163 (by decide) ?_
  refine V_ch2J (Y' := Y_L_bestWindow) ml_L_149 ch_L_bestWindow dL_alike_164 (k_bestWindow hB _) (by decide) (by decide) (by first | decide | (show _ ≤ 450; dsimp only; omega)) (by first | decide | (show _ ≤ 2700; dsimp only; omega)) (Nat.le_of_ble_eq_true rfl) (fun M9 L9 c9 f9 => ?_)
  have hA := hA.fr f9 (Or.inl (by omega))
  have hB := hB.go c9
  refine V_zf_ne (tgt := 229) dL_alike_167 dL_alike_168 (by decide) (rfl) ?_
  refine V_ald0 dL_alike_171 ?_
  refine V_ild2 dL_alike_172 ?_
  refine V_i2l dL_alike_173 ?_
  refine V_bipush (v := 20) dL_alike_174 (by decide) ?_
  refine V_ch3J (Y' := Y_L_simulate) ml_L_157 ch_L_simulate dL_alike_176 (k_simulate hA _ _) (by decide) (by decide) (by first | decide | (show _ ≤ 450; dsimp only; omega)) (by first | decide | (show _ ≤ 2700; dsimp only; omega)) (Nat.le_of_ble_eq_true rfl) (fun M9 L9 c9 f9 => ?_)
  have hB := hB.fr f9 (Or.inr (by omega))
  have hA := hA.go c9
  refine V_ald1 dL_alike_179 ?_
  refine V_ild2 dL_alike_180 ?_
  refine V_i2l dL_alike_181 ?_
  refine V_bipush (v := 20) dL_alike_182 (by decide) ?_
  refine V_ch3J (Y' := Y_L_simulate) ml_L_157 ch_L_simulate dL_alike_184 (k_simulate hB _ _) (by decide) (by decide) (by first | decide | (show _ ≤ 450; dsimp only; omega)) (by first | decide | (show _ ≤ 2700; dsimp only; omega)) (Nat.le_of_ble_eq_true rfl) (fun M9 L9 c9 f9 => ?_)
  have hA := hA.fr f9 (Or.inl (by omega))
  have hB := hB.go c9
  refine V_zf_ne (tgt := 229) dL_alike_187 dL_alike_188 (by decide) (rfl) ?_
  refine V_ald0 dL_alike_191 ?_
  refine V_iconst (v := 3) dL_alike_192 (by decide) ?_
  refine V_ldc2 dL_alike_193 mk_L_202 ?_
  refine V_ild2 dL_alike_196 ?_
  refine V_sipush (v := 900) dL_alike_197 (by decide) ?_
  refine V_irem dL_alike_200 (by decide) ?_
  refine V_i2l dL_alike_201 ?_
  refine V_ladd dL_alike_202 ?_
  refine V_ch3J (Y' := Y_L_script) ml_L_151 ch_L_script dL_alike_203 (k_script hA _ _) (by decide) (by decide) (by first | decide | (show _ ≤ 450; dsimp only; omega)) (by first | decide | (show _ ≤ 2700; dsimp only; omega)) (Nat.le_of_ble_eq_true rfl) (fun M9 L9 c9 f9 => ?_)
  have hB := hB.fr f9 (Or.inr (by omega))
  have hA := hA.go c9
  refine V_ald1 dL_alike_206 ?_
  refine V_iconst (v := 3) dL_alike_207 (by decide) ?_
  refine V_ldc2 dL_alike_208 mk_L_202 ?_
  refine V_ild2 dL_alike_211 ?_
  refine V_sipush (v := 900) dL_alike_212 (by decide) ?_
  refine V_irem dL_alike_215 (by decide) ?_
  refine V_i2l dL_alike_216 ?_
  refine V_ladd dL_alike_217 ?_
  refine V_ch3J (Y' := Y_L_script) ml_L_151 ch_L_script dL_alike_218 (k_script hB _ _) (by decide) (by decide) (by first | decide | (show _ ≤ 450; dsimp only; omega)) (by first | decide | (show _ ≤ 2700; dsimp only; omega)) (Nat.le_of_ble_eq_true rfl) (fun M9 L9 c9 f9 => ?_)
  have hA := hA.fr f9 (Or.inl (by omega))
  have hB := hB.go c9
  refine V_zf_ne (tgt := 229) dL_alike_221 dL_alike_222 (by decide) (rfl) ?_
  refine V_iconst (v := 1) dL_alike_225 (by decide) ?_
  refine V_goto (tgt := 230) dL_alike_226 (by decide) ?_
  exact V_zret rfl dL_alike_230 (Or.inr rfl) (by first | decide | (show _ ≤ 450; dsimp only; omega)) (by first | decide | (show _ ≤ 2700; dsimp only; omega)) ⟨rfl, _, _, rfl, hA.2.2.1, hB.2.2.1⟩
set_option maxRecDepth 100000 in
set_option maxHeartbeats 4000000 in
theorem c_L_act (hO : OK l n K G M L o S) (x y : Int32) : Con E l Y_L_act [.ref o, .int x, .int y] (false, n, K, G, M, L) (xJ (aAct S x y).1 (aAct S x y).2 o n K G M L) xF := by
  have hx := hO.2.1.1
  refine Con.mk 0 mp_L_act rfl (ls := [some (.ref o), some (.int x), some (.int y)]) rfl (Nat.le_of_ble_eq_true rfl) ?_
  refine V_ild1 dL_act_0 ?_
  refine V_bipush (v := 18) dL_act_1 (by decide) ?_
  refine V_irem dL_act_3 (by decide) ?_
  refine V_topi (fun y4 e4 => ?_)
  by_cases s4_0 : y4 = 0
  · subst s4_0
    refine V_tableIn (tgt := 56) dL_act_4 (by decide) (by decide) (off := 52) (by decide) (by decide) ?_
    refine V_ald0 dL_act_56 ?_
    refine V_iconst (v := 0) dL_act_57 (by decide) ?_
    refine V_ild2 dL_act_58 ?_
    refine V_bipush (v := 41) dL_act_59 (by decide) ?_
    refine V_irem dL_act_61 (by decide) ?_
    refine V_ch3J (Y' := Y_L_set) ml_L_136 ch_L_set dL_act_62 (k_set hO _ _) (by decide) (by decide) (by first | decide | (show _ ≤ 4; dsimp only; omega)) (by first | decide | (show _ ≤ 24; dsimp only; omega)) (Nat.le_of_ble_eq_true rfl) (fun M9 L9 c9 f9 => ?_)
    exact V_lret rfl dL_act_65 (by first | decide | (show _ ≤ 4; dsimp only; omega)) (by first | decide | (show _ ≤ 24; dsimp only; omega)) (act_mk (by show actK S (x - x / 18 * 18) y = _; rw [← e4]; rfl) c9 f9)
  by_cases s4_1 : y4 = 1
  · subst s4_1
    refine V_tableIn (tgt := 66) dL_act_4 (by decide) (by decide) (off := 62) (by decide) (by decide) ?_
    refine V_ald0 dL_act_66 ?_
    refine V_iconst (v := 1) dL_act_67 (by decide) ?_
    refine V_ild2 dL_act_68 ?_
    refine V_bipush (v := 21) dL_act_69 (by decide) ?_
    refine V_irem dL_act_71 (by decide) ?_
    refine V_ch3J (Y' := Y_L_set) ml_L_136 ch_L_set dL_act_72 (k_set hO _ _) (by decide) (by decide) (by first | decide | (show _ ≤ 4; dsimp only; omega)) (by first | decide | (show _ ≤ 24; dsimp only; omega)) (Nat.le_of_ble_eq_true rfl) (fun M9 L9 c9 f9 => ?_)
    exact V_lret rfl dL_act_75 (by first | decide | (show _ ≤ 4; dsimp only; omega)) (by first | decide | (show _ ≤ 24; dsimp only; omega)) (act_mk (by show actK S (x - x / 18 * 18) y = _; rw [← e4]; rfl) c9 f9)
  by_cases s4_2 : y4 = 2
  · subst s4_2
    refine V_tableIn (tgt := 76) dL_act_4 (by decide) (by decide) (off := 72) (by decide) (by decide) ?_
    refine V_ald0 dL_act_76 ?_
    refine V_iconst (v := 2) dL_act_77 (by decide) ?_
    refine V_ild2 dL_act_78 ?_
    refine V_iconst (v := 2) dL_act_79 (by decide) ?_
    refine V_irem dL_act_80 (by decide) ?_
    refine V_iadd dL_act_81 ?_
    refine V_iconst (v := 1) dL_act_82 (by decide) ?_
    refine V_ild2 dL_act_83 ?_
    refine V_iconst (v := 2) dL_act_84 (by decide) ?_
    refine V_idiv dL_act_85 (by decide) ?_
    refine V_bipush (v := 9) dL_act_86 (by decide) ?_
    refine V_irem dL_act_88 (by decide) ?_
    refine V_iadd dL_act_89 ?_
    refine V_ch3J (Y' := Y_L_set) ml_L_136 ch_L_set dL_act_90 (k_set hO _ _) (by decide) (by decide) (by first | decide | (show _ ≤ 4; dsimp only; omega)) (by first | decide | (show _ ≤ 24; dsimp only; omega)) (Nat.le_of_ble_eq_true rfl) (fun M9 L9 c9 f9 => ?_)
    exact V_lret rfl dL_act_93 (by first | decide | (show _ ≤ 4; dsimp only; omega)) (by first | decide | (show _ ≤ 24; dsimp only; omega)) (act_mk (by show actK S (x - x / 18 * 18) y = _; rw [← e4]; rfl) c9 f9)
  by_cases s4_3 : y4 = 3
  · subst s4_3
    refine V_tableIn (tgt := 94) dL_act_4 (by decide) (by decide) (off := 90) (by decide) (by decide) ?_
    refine V_ald0 dL_act_94 ?_
    refine V_iconst (v := 4) dL_act_95 (by decide) ?_
    refine V_sipush (v := 500) dL_act_96 (by decide) ?_
    refine V_ild2 dL_act_99 ?_
    refine V_sipush (v := 4501) dL_act_100 (by decide) ?_
    refine V_irem dL_act_103 (by decide) ?_
    refine V_iadd dL_act_104 ?_
    refine V_ch3J (Y' := Y_L_set) ml_L_136 ch_L_set dL_act_105 (k_set hO _ _) (by decide) (by decide) (by first | decide | (show _ ≤ 4; dsimp only; omega)) (by first | decide | (show _ ≤ 24; dsimp only; omega)) (Nat.le_of_ble_eq_true rfl) (fun M9 L9 c9 f9 => ?_)
    exact V_lret rfl dL_act_108 (by first | decide | (show _ ≤ 4; dsimp only; omega)) (by first | decide | (show _ ≤ 24; dsimp only; omega)) (act_mk (by show actK S (x - x / 18 * 18) y = _; rw [← e4]; rfl) c9 f9)
  by_cases s4_4 : y4 = 4
  · subst s4_4
    refine V_tableIn (tgt := 109) dL_act_4 (by decide) (by decide) (off := 105) (by decide) (by decide) ?_
    refine V_ald0 dL_act_109 ?_
    refine V_iconst (v := 1) dL_act_110 (by decide) ?_
    refine V_ild2 dL_act_111 ?_
    refine V_bipush (v := 7) dL_act_112 (by decide) ?_
    refine V_irem dL_act_114 (by decide) ?_
    refine V_iadd dL_act_115 ?_
    refine V_ild2 dL_act_116 ?_
    refine V_iconst (v := 3) dL_act_117 (by decide) ?_
    refine V_irem dL_act_118 (by decide) ?_
    refine V_if_ne (tgt := 133) dL_act_119 (by decide) (fun h119 => ?_) (fun h119 => ?_)
    · refine V_ald0 dL_act_133 ?_
      refine V_iconst (v := 1) dL_act_134 (by decide) ?_
      refine V_ild2 dL_act_135 ?_
      refine V_bipush (v := 7) dL_act_136 (by decide) ?_
      refine V_irem dL_act_138 (by decide) ?_
      refine V_iadd dL_act_139 ?_
      refine V_iconst (v := 0) dL_act_140 (by decide) ?_
      refine V_ch3R (Y' := Y_L_bin) ml_L_111 ch_L_bin dL_act_141 (k_bin hO _ _) (by decide) (by decide) (by first | decide | (show _ ≤ 4; dsimp only; omega)) (by first | decide | (show _ ≤ 24; dsimp only; omega)) (Nat.le_of_ble_eq_true rfl) ?_
      refine V_l2i dL_act_144 ?_
      refine V_bipush (v := 9) dL_act_145 (by decide) ?_
      refine V_isub dL_act_147 ?_
      refine V_ild2 dL_act_148 ?_
      refine V_bipush (v := 21) dL_act_149 (by decide) ?_
      refine V_idiv dL_act_151 (by decide) ?_
      refine V_bipush (v := 19) dL_act_152 (by decide) ?_
      refine V_irem dL_act_154 (by decide) ?_
      refine V_iadd dL_act_155 ?_
      refine V_ch3J (Y' := Y_L_setBorder) ml_L_138 ch_L_setBorder dL_act_156 (k_setBorder hO _ _) (by decide) (by decide) (by first | decide | (show _ ≤ 4; dsimp only; omega)) (by first | decide | (show _ ≤ 24; dsimp only; omega)) (Nat.le_of_ble_eq_true rfl) (fun M9 L9 c9 f9 => ?_)
      exact V_lret rfl dL_act_159 (by first | decide | (show _ ≤ 4; dsimp only; omega)) (by first | decide | (show _ ≤ 24; dsimp only; omega)) (act_mk (by show actK S (x - x / 18 * 18) y = _; rw [← e4]; simp [actK, ir, h119]) c9 f9)
    · refine V_ild2 dL_act_122 ?_
      refine V_bipush (v := 7) dL_act_123 (by decide) ?_
      refine V_idiv dL_act_125 (by decide) ?_
      refine V_sipush (v := 5001) dL_act_126 (by decide) ?_
      refine V_irem dL_act_129 (by decide) ?_
      refine V_goto (tgt := 156) dL_act_130 (by decide) ?_
      refine V_ch3J (Y' := Y_L_setBorder) ml_L_138 ch_L_setBorder dL_act_156 (k_setBorder hO _ _) (by decide) (by decide) (by first | decide | (show _ ≤ 4; dsimp only; omega)) (by first | decide | (show _ ≤ 24; dsimp only; omega)) (Nat.le_of_ble_eq_true rfl) (fun M9 L9 c9 f9 => ?_)
      exact V_lret rfl dL_act_159 (by first | decide | (show _ ≤ 4; dsimp only; omega)) (by first | decide | (show _ ≤ 24; dsimp only; omega)) (act_mk (by show actK S (x - x / 18 * 18) y = _; rw [← e4]; simp [actK, ir, h119]) c9 f9)
  by_cases s4_5 : y4 = 5
  · subst s4_5
    refine V_tableIn (tgt := 160) dL_act_4 (by decide) (by decide) (off := 156) (by decide) (by decide) ?_
    refine V_ild2 dL_act_160 ?_
    refine V_iconst (v := 3) dL_act_161 (by decide) ?_
    refine V_irem dL_act_162 (by decide) ?_
    refine V_if_ne (tgt := 174) dL_act_163 (by decide) (fun h163 => ?_) (fun h163 => ?_)
    · refine V_ald0 dL_act_174 ?_
      refine V_ch1J (Y' := Y_L_undo) ml_L_190 ch_L_undo dL_act_175 (k_undo hO) (by decide) (by decide) (by first | decide | (show _ ≤ 4; dsimp only; omega)) (by first | decide | (show _ ≤ 24; dsimp only; omega)) (Nat.le_of_ble_eq_true rfl) (fun M9 L9 c9 f9 => ?_)
      exact V_lret rfl dL_act_178 (by first | decide | (show _ ≤ 4; dsimp only; omega)) (by first | decide | (show _ ≤ 24; dsimp only; omega)) (act_mk (by show actK S (x - x / 18 * 18) y = _; rw [← e4]; simp [actK, ir, h163]) c9 f9)
    · refine V_ald0 dL_act_166 ?_
      obtain ⟨T9, B9, hw9, -⟩ := hO.2.2.2
      refine V_cv0J lk_L_196 cc_X5_empty dL_act_167 (by assumption) (c_X5_empty hO.2.1 hO.2.2.1 hw9) (xFit.mk (by decide) (by decide) (by first | decide | (show _ ≤ 4; dsimp only; omega)) (by first | decide | (show _ ≤ 24; dsimp only; omega))) rfl rfl (Nat.le_of_ble_eq_true rfl) (fun M9 L9 c9 f9 => ?_)
      refine V_i2l dL_act_170 ?_
      refine V_goto (tgt := 178) dL_act_171 (by decide) ?_
      exact V_lret rfl dL_act_178 (by first | decide | (show _ ≤ 4; dsimp only; omega)) (by first | decide | (show _ ≤ 24; dsimp only; omega)) (act_mk (by show actK S (x - x / 18 * 18) y = _; rw [← e4]; simp [actK, ir, h163]) c9 f9)
  by_cases s4_6 : y4 = 6
  · subst s4_6
    refine V_tableIn (tgt := 179) dL_act_4 (by decide) (by decide) (off := 175) (by decide) (by decide) ?_
    refine V_ild2 dL_act_179 ?_
    refine V_iconst (v := 2) dL_act_180 (by decide) ?_
    refine V_irem dL_act_181 (by decide) ?_
    refine V_if_ne (tgt := 197) dL_act_182 (by decide) (fun h182 => ?_) (fun h182 => ?_)
    · refine V_ald0 dL_act_197 ?_
      refine V_ild2 dL_act_198 ?_
      refine V_iconst (v := 2) dL_act_199 (by decide) ?_
      refine V_idiv dL_act_200 (by decide) ?_
      refine V_iconst (v := 1) dL_act_201 (by decide) ?_
      refine V_iand dL_act_202 ?_
      refine V_ch2J (Y' := Y_L_restore) ml_L_162 ch_L_restore dL_act_203 (k_restore hO _) (by decide) (by decide) (by first | decide | (show _ ≤ 4; dsimp only; omega)) (by first | decide | (show _ ≤ 24; dsimp only; omega)) (Nat.le_of_ble_eq_true rfl) (fun M9 L9 c9 f9 => ?_)
      exact V_lret rfl dL_act_206 (by first | decide | (show _ ≤ 4; dsimp only; omega)) (by first | decide | (show _ ≤ 24; dsimp only; omega)) (act_mk (by show actK S (x - x / 18 * 18) y = _; rw [← e4]; simp [actK, ir, h182]) c9 f9)
    · refine V_ald0 dL_act_185 ?_
      refine V_ild2 dL_act_186 ?_
      refine V_iconst (v := 2) dL_act_187 (by decide) ?_
      refine V_idiv dL_act_188 (by decide) ?_
      refine V_iconst (v := 1) dL_act_189 (by decide) ?_
      refine V_iand dL_act_190 ?_
      refine V_ch2J (Y' := Y_L_save) ml_L_160 ch_L_save dL_act_191 (k_save hO _) (by decide) (by decide) (by first | decide | (show _ ≤ 4; dsimp only; omega)) (by first | decide | (show _ ≤ 24; dsimp only; omega)) (Nat.le_of_ble_eq_true rfl) (fun M9 L9 c9 f9 => ?_)
      refine V_goto (tgt := 206) dL_act_194 (by decide) ?_
      exact V_lret rfl dL_act_206 (by first | decide | (show _ ≤ 4; dsimp only; omega)) (by first | decide | (show _ ≤ 24; dsimp only; omega)) (act_mk (by show actK S (x - x / 18 * 18) y = _; rw [← e4]; simp [actK, ir, h182]) c9 f9)
  by_cases s4_7 : y4 = 7
  · subst s4_7
    refine V_tableIn (tgt := 207) dL_act_4 (by decide) (by decide) (off := 203) (by decide) (by decide) ?_
    refine V_ald0 dL_act_207 ?_
    refine V_iconst (v := 1) dL_act_208 (by decide) ?_
    refine V_ild2 dL_act_209 ?_
    refine V_bipush (v := 40) dL_act_210 (by decide) ?_
    refine V_irem dL_act_212 (by decide) ?_
    refine V_iadd dL_act_213 ?_
    refine V_ch2J (Y' := Y_L_pass) ml_L_134 ch_L_pass dL_act_214 (k_pass hO _) (by decide) (by decide) (by first | decide | (show _ ≤ 4; dsimp only; omega)) (by first | decide | (show _ ≤ 24; dsimp only; omega)) (Nat.le_of_ble_eq_true rfl) (fun M9 L9 c9 f9 => ?_)
    exact V_lret rfl dL_act_217 (by first | decide | (show _ ≤ 4; dsimp only; omega)) (by first | decide | (show _ ≤ 24; dsimp only; omega)) (act_mk (by show actK S (x - x / 18 * 18) y = _; rw [← e4]; rfl) c9 f9)
  by_cases s4_8 : y4 = 8
  · subst s4_8
    refine V_tableIn (tgt := 207) dL_act_4 (by decide) (by decide) (off := 203) (by decide) (by decide) ?_
    refine V_ald0 dL_act_207 ?_
    refine V_iconst (v := 1) dL_act_208 (by decide) ?_
    refine V_ild2 dL_act_209 ?_
    refine V_bipush (v := 40) dL_act_210 (by decide) ?_
    refine V_irem dL_act_212 (by decide) ?_
    refine V_iadd dL_act_213 ?_
    refine V_ch2J (Y' := Y_L_pass) ml_L_134 ch_L_pass dL_act_214 (k_pass hO _) (by decide) (by decide) (by first | decide | (show _ ≤ 4; dsimp only; omega)) (by first | decide | (show _ ≤ 24; dsimp only; omega)) (Nat.le_of_ble_eq_true rfl) (fun M9 L9 c9 f9 => ?_)
    exact V_lret rfl dL_act_217 (by first | decide | (show _ ≤ 4; dsimp only; omega)) (by first | decide | (show _ ≤ 24; dsimp only; omega)) (act_mk (by show actK S (x - x / 18 * 18) y = _; rw [← e4]; rfl) c9 f9)
  refine V_tableOut (tgt := 218) dL_act_4 (by have q0 := xne s4_0; have q1 := xne s4_1; have q2 := xne s4_2; have q3 := xne s4_3; have q4 := xne s4_4; have q5 := xne s4_5; have q6 := xne s4_6; have q7 := xne s4_7; have q8 := xne s4_8; simp only [xlit_0, xlit_1, xlit_2, xlit_3, xlit_4, xlit_5, xlit_6, xlit_7, xlit_8] at q0 q1 q2 q3 q4 q5 q6 q7 q8; omega) (by decide) ?_
  refine V_ald0 dL_act_218 ?_
  refine V_ild2 dL_act_219 ?_
  refine V_iconst (v := 4) dL_act_220 (by decide) ?_
  refine V_irem dL_act_221 (by decide) ?_
  refine V_if_ne (tgt := 234) dL_act_222 (by decide) (fun h222 => ?_) (fun h222 => ?_)
  · refine V_ild2 dL_act_234 ?_
    refine V_iconst (v := 4) dL_act_235 (by decide) ?_
    refine V_idiv dL_act_236 (by decide) ?_
    refine V_bipush (v := 6) dL_act_237 (by decide) ?_
    refine V_irem dL_act_239 (by decide) ?_
    refine V_iconst (v := 1) dL_act_240 (by decide) ?_
    refine V_ild2 dL_act_241 ?_
    refine V_sipush (v := 400) dL_act_242 (by decide) ?_
    refine V_idiv dL_act_245 (by decide) ?_
    refine V_bipush (v := 60) dL_act_246 (by decide) ?_
    refine V_irem dL_act_248 (by decide) ?_
    refine V_iadd dL_act_249 ?_
    refine V_ch3J (Y' := Y_L_drop) ml_L_132 ch_L_drop dL_act_250 (k_drop hO _ _) (by decide) (by decide) (by first | decide | (show _ ≤ 4; dsimp only; omega)) (by first | decide | (show _ ≤ 24; dsimp only; omega)) (Nat.le_of_ble_eq_true rfl) (fun M9 L9 c9 f9 => ?_)
    exact V_lret rfl dL_act_253 (by first | decide | (show _ ≤ 4; dsimp only; omega)) (by first | decide | (show _ ≤ 24; dsimp only; omega)) (act_mk (by show actK S (x - x / 18 * 18) y = _; rw [← e4]; simp [actK, ir, h222, s4_0, s4_1, s4_2, s4_3, s4_4, s4_5, s4_6, s4_7, s4_8]) c9 f9)
  · refine V_ild2 dL_act_225 ?_
    refine V_iconst (v := 4) dL_act_226 (by decide) ?_
    refine V_idiv dL_act_227 (by decide) ?_
    refine V_bipush (v := 100) dL_act_228 (by decide) ?_
    refine V_irem dL_act_230 (by decide) ?_
    refine V_goto (tgt := 240) dL_act_231 (by decide) ?_
    refine V_iconst (v := 1) dL_act_240 (by decide) ?_
    refine V_ild2 dL_act_241 ?_
    refine V_sipush (v := 400) dL_act_242 (by decide) ?_
    refine V_idiv dL_act_245 (by decide) ?_
    refine V_bipush (v := 60) dL_act_246 (by decide) ?_
    refine V_irem dL_act_248 (by decide) ?_
    refine V_iadd dL_act_249 ?_
    refine V_ch3J (Y' := Y_L_drop) ml_L_132 ch_L_drop dL_act_250 (k_drop hO _ _) (by decide) (by decide) (by first | decide | (show _ ≤ 4; dsimp only; omega)) (by first | decide | (show _ ≤ 24; dsimp only; omega)) (Nat.le_of_ble_eq_true rfl) (fun M9 L9 c9 f9 => ?_)
    exact V_lret rfl dL_act_253 (by first | decide | (show _ ≤ 4; dsimp only; omega)) (by first | decide | (show _ ≤ 24; dsimp only; omega)) (act_mk (by show actK S (x - x / 18 * 18) y = _; rw [← e4]; simp [actK, ir, h222, s4_0, s4_1, s4_2, s4_3, s4_4, s4_5, s4_6, s4_7, s4_8]) c9 f9)
theorem c_L_types (hO : OK l n K G M L o S) {k : Nat} (hk : k ≤ 99) (h2 : S.1 + 2 ≤ 100) : Con E l Y_L_types [.ref o, .int (nI k)] (false, n, K, G, M, L) (xJV (.int 1) (sText (sText S (nI (48 + k / 10))) (nI (48 + k % 10))) o n K G M L) xF := by
  have e1 : nI k / 10 = nI (k / 10) := pkD k 10 (by omega) (by decide) (by decide)
  have e2 : nI k - nI k / 10 * 10 = nI (k % 10) := pkR k 10 (by omega) (by decide) (by decide)
  have e3 : (48 : Int32) + nI (k / 10) = nI (48 + k / 10) := nI_add 48 _
  have e4 : (48 : Int32) + nI (k % 10) = nI (48 + k % 10) := nI_add 48 _
  refine Con.mk 0 mp_L_types rfl (ls := [some (.ref o), some (.int (nI k))]) rfl (Nat.le_of_ble_eq_true rfl) ?_
  refine V_ald0 dL_types_0 ?_
  refine V_bipush (v := 48) dL_types_1 (by decide) ?_
  refine V_ild1 dL_types_3 ?_
  refine V_bipush (v := 10) dL_types_4 (by decide) ?_
  refine V_idiv dL_types_6 (by decide) ?_
  refine V_iadd dL_types_7 ?_
  rw [e1, e3]
  refine V_ch2J (Y' := Y_L_append) ml_L_164 ch_L_append dL_types_8 ((k_append hO _).jval (lApp_0 (by omega) (by omega)) (sApp_0 (by omega) (by omega))) (by decide) (by decide) (by first | decide | (show _ ≤ 2; dsimp only; omega)) (by first | decide | (show _ ≤ 12; dsimp only; omega)) (Nat.le_of_ble_eq_true rfl) (fun M9 L9 c9 f9 => ?_)
  have hO9 : OK l n K G M9 L9 o (sText S (nI (48 + k / 10))) := ⟨hO.1, hO.2.1, c9, hO.2.2.2⟩
  refine V_lconst (v := 0) dL_types_11 (by decide) ?_
  refine V_zf_le (tgt := 36) dL_types_12 dL_types_13 (by decide) (lN_pos (by omega) (by omega)) ?_
  refine V_ald0 dL_types_16 ?_
  refine V_bipush (v := 48) dL_types_17 (by decide) ?_
  refine V_ild1 dL_types_19 ?_
  refine V_bipush (v := 10) dL_types_20 (by decide) ?_
  refine V_irem dL_types_22 (by decide) ?_
  refine V_iadd dL_types_23 ?_
  rw [e2, e4]
  refine V_ch2J (Y' := Y_L_append) ml_L_164 ch_L_append dL_types_24 ((k_append hO9 _).jval (lApp_0 (show S.1 + 1 < 100 by omega) (by omega)) (sApp_0 (show S.1 + 1 < 100 by omega) (by omega))) (by decide) (by decide) (by first | decide | (show _ ≤ 2; dsimp only; omega)) (by first | decide | (show _ ≤ 12; dsimp only; omega)) (Nat.le_of_ble_eq_true rfl) (fun M8 L8 c8 f8 => ?_)
  refine V_lconst (v := 0) dL_types_27 (by decide) ?_
  refine V_zf_le (tgt := 36) dL_types_28 dL_types_29 (by decide) (lN_pos (by omega) (show S.1 + 1 + 1 < 2 ^ 31 by omega)) ?_
  refine V_iconst (v := 1) dL_types_32 (by decide) ?_
  refine V_goto (tgt := 37) dL_types_33 (by decide) ?_
  exact V_zret rfl dL_types_37 (Or.inr rfl) (by first | decide | (show _ ≤ 2; dsimp only; omega)) (by first | decide | (show _ ≤ 12; dsimp only; omega)) ⟨rfl, _, _, rfl, c8, f9.trans f8⟩
end C84

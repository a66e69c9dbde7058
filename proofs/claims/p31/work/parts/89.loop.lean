/-! ===== the law: its loop ===== -/
section P89
variable {n n' o : Nat} {K K' : xKnd} {G G' : xRef} {M M' : xMem} {L L' : xLng} {S : xSp} {T B : Nat}
theorem CRel.cong (h : CRel M L o S) (hM : ∀ k, o ≤ k → k ≤ o + 288 → M' k = M k) (hL : ∀ k, o ≤ k → k ≤ o + 288 → L' k = L k) : CRel M' L' o S := by
  obtain ⟨c0, c1, c2, c3, ⟨nx, n1, n2, n3, n4, n5⟩, c5, c6, c7, c8⟩ := h
  have al : ∀ s R, o ≤ s → s + 14 ≤ o + 288 → AlE M L s R → AlE M' L' s R := fun s R q1 q2 q => q.congr (fun k i h1 h2 => by rw [hM k (by omega) (by omega)]) (by rw [hL _ (by omega) (by omega)])
  refine ⟨?_, ?_, al _ _ (by omega) (by omega) c2, al _ _ (by omega) (by omega) c3, ⟨nx, n1, ?_, ?_, n4, fun i hi => ?_⟩, ?_, ?_, fun q => al _ _ (by omega) (by omega) (c7 q), fun q => al _ _ (by omega) (by omega) (c8 q)⟩
  · unfold iTx; rw [hM _ (by omega) (by omega)]; exact c0
  · intro i hi; rw [hM _ (by omega) (by omega)]; exact c1 i hi
  · rw [hM _ (by omega) (by omega)]; exact n2
  · rw [hM _ (by omega) (by omega)]; exact n3
  · have := kMi_lt n1 (i := i) (Nat.lt_of_lt_of_le hi n4)
    exact al _ _ (by omega) (by omega) (n5 i hi)
  · rw [hM _ (by omega) (by omega)]; exact c5
  · rw [hM _ (by omega) (by omega)]; exact c6
theorem rX.go (h : rX n K G o) (hn : n ≤ n') (hk : ∀ k, o ≤ k → k ≤ o + 288 → K' k = K k ∧ G' k = G k) : rX n' K' G' o := by
  obtain ⟨h0, g0, ht, g1, s1, g2, s2, g3, s3, g4, h4, hj, g7, s7, g8, s8⟩ := h
  unfold rX
  rw [(hk o (by omega) (by omega)).2]
  exact ⟨h0.go hn (hk _ (by omega) (by omega)).1, g0, ht.go hn (fun k q1 q2 => hk k (by omega) (by omega)), g1, s1.go hn (fun k q1 q2 => hk k (by omega) (by omega)), g2, s2.go hn (fun k q1 q2 => hk k (by omega) (by omega)), g3, s3.go hn (fun k q1 q2 => hk k (by omega) (by omega)), g4, h4.go hn (hk _ (by omega) (by omega)).1, fun j q => ⟨by rw [(hk _ (by omega) (by omega)).2]; exact (hj j q).1, (hj j q).2.go hn (fun k q1 q2 => hk k (by omega) (by omega))⟩, g7, s7.go hn (fun k q1 q2 => hk k (by omega) (by omega)), g8, s8.go hn (fun k q1 q2 => hk k (by omega) (by omega))⟩
theorem WK_if {k : Nat} {S' : xSp} (h1 : k = 0 → WK S' T B) (h2 : WK S T B) : WK (if k = 0 then S' else S) T B := by
  by_cases c : k = 0
  · rw [if_pos c]; exact h1 c
  · rw [if_neg c]; exact h2
theorem K_drop (h : WK S T B) (t2 : T ≤ 240000) (b2 : B ≤ 400000000) {t z : Int32} : WK (sDrop S t z) (T + 99) (B + 216000) := by
  refine WK_if (fun k => ?_) (h.mono (by omega) (by omega))
  have c : ¬ (t < 0 ∨ 99 < t) ∧ ¬ (z < 1 ∨ 60 < z) := by
    refine Decidable.byContradiction fun q => ?_
    unfold kdFall at k
    rw [if_neg q] at k
    exact absurd k (by decide)
  obtain ⟨c1, c2⟩ := c
  rw [not_or] at c1 c2
  obtain ⟨d, d1, rfl⟩ := xIdx (N := 99) (by decide) c1.1 c1.2
  obtain ⟨y, y1, y2, rfl⟩ := xIdx1 (N := 60) (by decide) c2.1 c2.2
  exact (h.push.mono (by omega) (by omega)).now ((h.1.1.dr ⟨y1, y2⟩ (by omega) (by omega)).mono (by omega) (by omega)) (h.2.1.dr h.1.1 ⟨y1, y2⟩ (by omega))
theorem kdO_n {v a b : Int32} (h : v < a ∨ b < v) : ¬ kdO v a b = 0 := by unfold kdO; rw [if_pos h]; decide
theorem K_pass (h : WK S T B) {t : Int32} : WK (sPass S t) (T + 99) (B + 216000) := by
  refine WK_if (fun k => ?_) (h.mono (by omega) (by omega))
  have c : ¬ (t < 1 ∨ 99 < t) := fun q => kdO_n q k
  rw [not_or] at c
  obtain ⟨d, d1, d2, rfl⟩ := xIdx1 (N := 99) (by decide) c.1 c.2
  exact (h.push.mono (by omega) (by omega)).now ((h.1.1.go (d := d)).mono (by omega) (by omega)) (h.2.1.go h.1.1)
theorem K_set (h : WK S T B) {w v : Int32} : WK (sSet S w v) (T + 99) (B + 216000) := by
  refine WK_if (fun k => ?_) (h.mono (by omega) (by omega))
  have c : ¬ (w < 0 ∨ 4 < w) ∧ ¬ (v < xLeast w.toNatClampNeg ∨ xGreatest w.toNatClampNeg < v) := by
    refine Decidable.byContradiction fun q => ?_
    unfold kdSet at k
    rw [if_neg q] at k
    exact absurd k (by decide)
  obtain ⟨c1, c2⟩ := c
  rw [not_or] at c1
  obtain ⟨d, d1, rfl⟩ := xIdx (N := 4) (by decide) c1.1 c1.2
  rw [nI_clamp (by omega)] at c2 ⊢
  exact (h.push.now (h.1.1.set d1 c2) (h.2.1.set d1)).mono (by omega) (by omega)
theorem K_bor (h : WK S T B) {w v : Int32} : WK (sSetBorder S w v) (T + 99) (B + 216000) := by
  refine WK_if (fun k => ?_) (h.mono (by omega) (by omega))
  have hk := h.2.1.bor k
  have c1 : ¬ (w < 1 ∨ 7 < w) := by
    intro q
    unfold kdBor at k
    rw [if_pos q] at k
    exact absurd k (by decide)
  have c2 : ¬ (v < 1 ∨ 5000 < v) := by
    intro q
    unfold kdBor at k
    rw [if_neg c1, if_pos q] at k
    exact absurd k (by decide)
  rw [not_or] at c1 c2
  obtain ⟨d, d1, d2, rfl⟩ := xIdx1 (N := 7) (by decide) c1.1 c1.2
  obtain ⟨y, y1, y2, rfl⟩ := xIdx1 (N := 5000) (by decide) c2.1 c2.2
  rw [nI_clamp (by omega)] at hk ⊢
  exact (h.push.now (h.1.1.up (i := 15 + d) (by omega) (fun q => by omega) (fun q => by omega) (fun q => by omega) (fun q => by omega) (fun q => by omega) (fun q => by omega) (fun q => by omega) (fun _ _ => ⟨y, y1, y2, rfl⟩) (by omega)) hk).mono (by omega) (by omega)
theorem K_empty (h : WK S T B) : WK (sNow (sPush S) (rEmp S.2.2.1)) (T + 99) (B + 216000) := (h.push.now h.1.1.emp h.2.1.emp).mono (by omega) (by omega)
theorem K_undo (h : WK S T B) : WK (sUndo S) (T + 99) (B + 216000) := by
  refine WK_if (fun k => ?_) (h.mono (by omega) (by omega))
  refine (h.pop ?_).mono (by omega) (by omega)
  refine Nat.pos_of_ne_zero fun q => ?_
  unfold kdUndo at k
  rw [if_pos q] at k
  exact absurd k (by decide)
theorem K_save (h : WK S T B) {w : Int32} : WK (sSave S w) (T + 99) (B + 216000) := WK_if (fun _ => h.keep.mono (by omega) (by omega)) (h.mono (by omega) (by omega))
theorem K_restore (h : WK S T B) {w : Int32} : WK (sRestore S w) (T + 99) (B + 216000) := by
  refine WK_if (fun k => ?_) (h.mono (by omega) (by omega))
  unfold kdRes at k
  split at k
  · exact absurd k (by decide)
  next c =>
    split at k
    next c2 =>
      rw [not_or] at c
      obtain ⟨d, d1, rfl⟩ := xIdx (N := 1) (by decide) c.1 c.2
      rw [nI_clamp (by omega)] at c2 ⊢
      exact (h.back (by omega) c2).mono (by omega) (by omega)
    · exact absurd k (by decide)
theorem K_act (h : WK S T B) (t2 : T ≤ 240000) (b2 : B ≤ 400000000) {x y : Int32} : WK (aAct S x y).2 (T + 99) (B + 216000) := by
  unfold aAct actK
  split
  · exact K_set h
  split
  · exact K_set h
  split
  · exact K_set h
  split
  · exact K_set h
  split
  · split
    · exact K_bor h
    · exact K_bor h
  split
  · split
    · exact K_empty h
    · exact K_undo h
  split
  · split
    · exact K_save h
    · exact K_restore h
  split
  · exact K_pass h
  split
  · exact K_drop h t2 b2
  · exact K_drop h t2 b2
theorem K_load (h : WK S T B) (hl : S.1 ≤ 100) (h1 : 9900 ≤ T) (h2 : 21600000 ≤ B) : WK (sLoadX S) (T + 99) (B + 216000) :=
  WK_if (fun k => (WK.load hl k).mono (by omega) (by omega)) (h.mono (by omega) (by omega))
theorem K_mc (h : WK S T B) : WK (sMc (sKeep S 1) 0) T B := by
  have q := h.keep (j := 1)
  exact ⟨⟨q.1.1, fun i hi => absurd hi (Nat.not_lt_zero i), q.1.2.2⟩, q.2.1, fun i hi => absurd hi (Nat.not_lt_zero i), q.2.2.2⟩
theorem dDr_n {N : Nat} {xs : Nat → Int32} {k : Nat} : ∃ j, j < 2 ^ 31 ∧ dDr N xs k = nI j := pk_andE _ 31 (by decide)
theorem OK.of {l : Launch} (hl : l.stackTraces = false) (h : rX n K G o) (c : CRel M L o S) (w : WK S T B) (hT : T ≤ 240000) (hB : B ≤ 400000000) : OK l n K G M L o S := ⟨hl, h, c, T, B, w.1, hT, hB⟩
end P89
section C89
variable {E : xEnv} {l : Launch} {Q : xQ} {n o1 o2 : Nat} {K : xKnd} {G : xRef} {M : xMem} {L : xLng} {S : xSp}
theorem cc_L_alike : xCS Y_L_alike 3 := ⟨ok_L_alike, mt_L_alike⟩
theorem cc_L_errors : xCS Y_L_errors 1 := ⟨ok_L_errors, mt_L_errors⟩
theorem cc_L_kept : xCS Y_L_kept 1 := ⟨ok_L_kept, mt_L_kept⟩
theorem cc_L_follows : xCS Y_L_follows 2 := ⟨ok_L_follows, mt_L_follows⟩
theorem cc_L_tells : xCS Y_L_tells 3 := ⟨ok_L_tells, mt_L_tells⟩
theorem cc_L_act : xCS Y_L_act 3 := ⟨ok_L_act, mt_L_act⟩
theorem cc_L_draw : xCS Y_L_draw 2 := ⟨ok_L_draw, mt_L_draw⟩
theorem cc_X5_init : xCI Y_X5_init 0 := ⟨ok_X5_init, mm_X5_init, rfl, rfl⟩
theorem V_al {Y : xY} {q : xS} {cs : Nat × Nat} {pc idx : Nat} {ls : List (Option Value)} {rest : List Value} {a3 : Value} {Y' : xY} {S S2 : xSp} (hk : xLk Y.1.cls idx Y') (hc : xCS Y' 3) (d : decode Y.2.1 pc = .ok (.invokestatic idx, 3)) (con : Con E l Y' [.ref o1, .ref o2, a3] q (xJ2 (.int 1) S S2 o1 o2 n K G) xF) (fit : xFit Y Y' cs) (hW : (rest.map fun v => v.category).sum ≤ 8) (kk : ∀ M' L', CRel M' L' o1 S → CRel M' L' o2 S2 → V E l Y Q (false, n, K, G, M', L') (cs.1 + Y'.2.2.2.2.1.cells, cs.2 + Y'.2.2.2.2.1.slots) (pc + 3) ls (.int 1 :: rest)) : V E l Y Q q cs pc ls (a3 :: .ref o2 :: .ref o1 :: rest) :=
  V_cs3P hk hc d con fit hW (fun o q2 hq => by obtain ⟨rfl, M', L', rfl, c1, c2⟩ := hq; exact kk M' L' c1 c2)
set_option maxRecDepth 100000 in
set_option maxHeartbeats 4000000 in
theorem L_loop (hl : l.stackTraces = false) (h1 : rX n K G o1) (h2 : rX n K G o2) (hd : o1 + 288 < o2) (hN : E.2.2.2.1 < 2 ^ 31)
    (fin : ∀ (q : xS) (cs : Nat × Nat) (ls : List (Option Value)), cs.1 ≤ 600130 → cs.2 ≤ 7301080 → V E l Y_L_law Q q cs 296 ls [.int 1]) :
    ∀ (e k : Nat) (M : xMem) (L : xLng) (S : xSp) (o5 o6 : Option Value), k + e = 72 → CRel M L o1 S → CRel M L o2 S → WK S (9900 + 99 * k) (21600000 + 216000 * k) → V E l Y_L_law Q (false, n, K, G, M, L) (2400 + 4300 * k, 21000 + 25800 * k) 52 [some (.ref 2), some (.ref o1), some (.ref o2), some (.int 1), some (.int (nI k)), o5, o6] [] := by
  have hx1 := h1.1
  have hx2 := h2.1
  intro e
  induction e with
  | zero =>
    intro k M L S o5 o6 hk c1 c2 hw
    have ek : k = 72 := by omega
    subst ek
    have hA := OK.of hl h1 c1 hw (by omega) (by omega)
    have hB := OK.of hl h2 c2 hw (by omega) (by omega)
    refine V_ild4 dL_law_52 ?_
    refine V_bipush (v := 72) dL_law_54 (by decide) ?_
    refine V_yt_ge (tgt := 277) dL_law_56 (by decide) (by decide) ?_
    refine V_ild3 dL_law_277 ?_
    refine V_xf_eq (tgt := 295) dL_law_278 (by decide) (by decide) ?_
    refine V_ald1 dL_law_281 ?_
    refine V_ald2 dL_law_282 ?_
    refine V_ldc dL_law_283 mk_L_239 ?_
    refine V_al lk_L_216 cc_L_alike dL_law_285 (c_L_alike hA hB hd _) (xFit.mk (by decide) (by decide) (by first | decide | (show _ ≤ 600130; dsimp only; omega)) (by first | decide | (show _ ≤ 7301080; dsimp only; omega))) (Nat.le_of_ble_eq_true rfl) (fun M9 L9 a1 a2 => ?_)
    refine V_xf_eq (tgt := 295) dL_law_288 (by decide) (by decide) ?_
    refine V_iconst (v := 1) dL_law_291 (by decide) ?_
    refine V_goto (tgt := 296) dL_law_292 (by decide) ?_
    exact fin _ _ _ (by decide) (by decide)
  | succ e ih =>
    intro k M L S o5 o6 hk c1 c2 hw
    have k72 : k < 72 := by omega
    have hA := OK.of hl h1 c1 hw (by omega) (by omega)
    have hB := OK.of hl h2 c2 hw (by omega) (by omega)
    obtain ⟨x, hx, ex⟩ := dDr_n (N := E.2.2.2.1) (xs := E.2.2.2.2) (k := 2 * k)
    obtain ⟨y, hy, ey⟩ := dDr_n (N := E.2.2.2.1) (xs := E.2.2.2.2) (k := 2 * k + 1)
    have m2 : (2 : Int32) * nI k = nI (2 * k) := pk_mul 2 k
    have k36 : nI k - nI k / 36 * 36 = nI (k % 36) := pkR k 36 (by omega) (by decide) (by decide)
    have k6 : nI k - nI k / 6 * 6 = nI (k % 6) := pkR k 6 (by omega) (by decide) (by decide)
    have k12 : nI k - nI k / 12 * 12 = nI (k % 12) := pkR k 12 (by omega) (by decide) (by decide)
    have next : ∀ (M9 : xMem) (L9 : xLng) (S9 : xSp), CRel M9 L9 o1 S9 → CRel M9 L9 o2 S9 → WK S9 (9900 + 99 * k + 99) (21600000 + 216000 * k + 216000) → V E l Y_L_law Q (false, n, K, G, M9, L9) (2400 + 4300 * k + 4300, 21000 + 25800 * k + 25800) 271 [some (.ref 2), some (.ref o1), some (.ref o2), some (.int 1), some (.int (nI k)), some (.int (nI x)), some (.int (nI y))] [] := by
      intro M9 L9 S9 q1 q2 qw
      refine V_inc4 dL_law_271 rfl (nI_1 _) ?_
      refine V_goto (tgt := 52) dL_law_274 (by decide) ?_
      refine V_widen (k := 2400 + 4300 * (k + 1)) (n := 21000 + 25800 * (k + 1)) (by dsimp only; omega) (by dsimp only; omega) (ih (k + 1) M9 L9 S9 _ _ (by omega) q1 q2 (qw.mono (by omega) (by omega)))
    have s243 : ∀ (M9 : xMem) (L9 : xLng) (S9 : xSp), CRel M9 L9 o1 S9 → CRel M9 L9 o2 S9 → WK S9 (9900 + 99 * k + 99) (21600000 + 216000 * k + 216000) → V E l Y_L_law Q (false, n, K, G, M9, L9) (2400 + 4300 * k + 3800, 21000 + 25800 * k + 22800) 243 [some (.ref 2), some (.ref o1), some (.ref o2), some (.int 1), some (.int (nI k)), some (.int (nI x)), some (.int (nI y))] [] := by
      intro M9 L9 S9 q1 q2 qw
      have qA := OK.of hl h1 q1 qw (by omega) (by omega)
      have qB := OK.of hl h2 q2 qw (by omega) (by omega)
      by_cases z : 0 < k % 6
      · refine V_ild3 dL_law_243 ?_
        refine V_xf_eq (tgt := 269) dL_law_244 (by decide) (by decide) ?_
        refine V_ild4 dL_law_247 ?_
        refine V_bipush (v := 6) dL_law_249 (by decide) ?_
        refine V_irem dL_law_251 (by decide) ?_
        rw [k6]
        refine V_xt_gt (tgt := 265) dL_law_252 (by decide) (nI_lt (a := 0) z (by omega)) ?_
        refine V_iconst (v := 1) dL_law_265 (by decide) ?_
        refine V_goto (tgt := 270) dL_law_266 (by decide) ?_
        refine V_ist3 dL_law_270 rfl (by decide) ?_
        exact V_widen (k := 2400 + 4300 * k + 4300) (n := 21000 + 25800 * k + 25800) (by dsimp only; omega) (by dsimp only; omega) (next M9 L9 S9 q1 q2 qw)
      · refine V_ild3 dL_law_243 ?_
        refine V_xf_eq (tgt := 269) dL_law_244 (by decide) (by decide) ?_
        refine V_ild4 dL_law_247 ?_
        refine V_bipush (v := 6) dL_law_249 (by decide) ?_
        refine V_irem dL_law_251 (by decide) ?_
        rw [k6]
        refine V_xf_gt (tgt := 265) dL_law_252 (by decide) (nI_nlt (a := 0) (by omega) (by decide)) ?_
        refine V_ald1 dL_law_255 ?_
        refine V_ald2 dL_law_256 ?_
        refine V_ild6 dL_law_257 ?_
        refine V_al lk_L_216 cc_L_alike dL_law_259 (c_L_alike qA qB hd _) (xFit.mk (by decide) (by decide) (by first | decide | (show _ ≤ 600130; dsimp only; omega)) (by first | decide | (show _ ≤ 7301080; dsimp only; omega))) (Nat.le_of_ble_eq_true rfl) (fun M8 L8 a1 a2 => ?_)
        refine V_xf_eq (tgt := 269) dL_law_262 (by decide) (by decide) ?_
        refine V_iconst (v := 1) dL_law_265 (by decide) ?_
        refine V_goto (tgt := 270) dL_law_266 (by decide) ?_
        refine V_ist3 dL_law_270 rfl (by decide) ?_
        exact V_widen (k := 2400 + 4300 * k + 4300) (n := 21000 + 25800 * k + 25800) (by dsimp only; omega) (by dsimp only; omega) (next M8 L8 S9 a1 a2 qw)
    have s194 : ∀ (M9 : xMem) (L9 : xLng) (S9 : xSp), CRel M9 L9 o1 S9 → CRel M9 L9 o2 S9 → WK S9 (9900 + 99 * k + 99) (21600000 + 216000 * k + 216000) → V E l Y_L_law Q (false, n, K, G, M9, L9) (2400 + 4300 * k + 1390, 21000 + 25800 * k + 8340) 194 [some (.ref 2), some (.ref o1), some (.ref o2), some (.int 1), some (.int (nI k)), some (.int (nI x)), some (.int (nI y))] [] := by
      intro M9 L9 S9 q1 q2 qw
      have qA := OK.of hl h1 q1 qw (by omega) (by omega)
      by_cases z : k % 12 = 11
      · refine V_ild4 dL_law_194 ?_
        refine V_bipush (v := 12) dL_law_196 (by decide) ?_
        refine V_irem dL_law_198 (by decide) ?_
        rw [k12]
        refine V_bipush (v := 11) dL_law_199 (by decide) ?_
        refine V_yf_ne (tgt := 243) dL_law_201 (by decide) (by rw [z]; rfl) ?_
        refine V_ild3 dL_law_204 ?_
        refine V_xf_eq (tgt := 241) dL_law_205 (by decide) (by decide) ?_
        refine V_ald2 dL_law_208 ?_
        refine V_ild6 dL_law_209 ?_
        refine V_cs2J lk_L_236 cc_L_follows dL_law_211 (c_L_follows hl h2 q2 qw.1 (by omega) (by omega) qw.2.1 hy) (xFit.mk (by decide) (by decide) (by first | decide | (show _ ≤ 600130; dsimp only; omega)) (by first | decide | (show _ ≤ 7301080; dsimp only; omega))) (Nat.le_of_ble_eq_true rfl) (fun M8 L8 c8 f8 => ?_)
        refine V_xf_eq (tgt := 241) dL_law_214 (by decide) (by decide) ?_
        have qA8 := qA.fr f8 (Or.inl hd)
        obtain ⟨t9, e9⟩ : ∃ t, t < 2 ^ 31 ∧ S9.2.2.1 0 = nI t := by
          obtain ⟨-, -, -, -, -, -, -, -, -, ⟨t0, s0, la, e1, -, -, -, -, e6⟩, -⟩ := qw.1.1
          exact ⟨t0, by omega, e1⟩
        have v9 : (S9.2.2.1 0).toInt64 = lN t9 := by rw [e9.2, nI_l e9.1]
        have ge9 : ¬ lN t9 < 0 := lNle (b := 0) (Nat.zero_le _) e9.1
        refine V_ald1 dL_law_217 ?_
        refine V_iconst (v := 1) dL_law_218 (by decide) ?_
        refine V_ch2J (Y' := Y_L_save) ml_L_160 ch_L_save dL_law_219 ((k_save qA8 _).jval (fSave.1.trans v9) fSave.2) (by decide) (by decide) (by first | decide | (show _ ≤ 600130; dsimp only; omega)) (by first | decide | (show _ ≤ 7301080; dsimp only; omega)) (Nat.le_of_ble_eq_true rfl) (fun M7 L7 c7 f7 => ?_)
        have mc14 : S9.2.2.2.1 ≤ S9.2.2.2.1 := Nat.le_refl _
        have qA7 : OK l n K G M7 L7 o1 (sMc (sKeep S9 1) S9.2.2.2.1) := ⟨hl, h1, c7, _, _, qw.1.mc mc14, by omega, by omega⟩
        refine V_lconst (v := 0) dL_law_222 (by decide) ?_
        refine V_zf_lt (tgt := 241) dL_law_223 dL_law_224 (by decide) (ge9) ?_
        refine V_ald1 dL_law_227 ?_
        refine V_iconst (v := 1) dL_law_228 (by decide) ?_
        refine V_ch2J (Y' := Y_L_restore) ml_L_162 ch_L_restore dL_law_229 ((k_restore qA7 _).jval (fRestore.1.trans v9) fRestore.2) (by decide) (by decide) (by first | decide | (show _ ≤ 600130; dsimp only; omega)) (by first | decide | (show _ ≤ 7301080; dsimp only; omega)) (Nat.le_of_ble_eq_true rfl) (fun M6 L6 c6 f6 => ?_)
        refine V_lconst (v := 0) dL_law_232 (by decide) ?_
        refine V_zf_lt (tgt := 241) dL_law_233 dL_law_234 (by decide) (ge9) ?_
        refine V_iconst (v := 1) dL_law_237 (by decide) ?_
        refine V_goto (tgt := 242) dL_law_238 (by decide) ?_
        refine V_ist3 dL_law_242 rfl (by decide) ?_
        exact V_widen (k := 2400 + 4300 * k + 3800) (n := 21000 + 25800 * k + 22800) (by dsimp only; omega) (by dsimp only; omega) (s243 M6 L6 _ c6 (((c8.fr f7 (Or.inr hd)).fr f6 (Or.inr hd))) (K_mc qw))
      · refine V_ild4 dL_law_194 ?_
        refine V_bipush (v := 12) dL_law_196 (by decide) ?_
        refine V_irem dL_law_198 (by decide) ?_
        rw [k12]
        refine V_bipush (v := 11) dL_law_199 (by decide) ?_
        refine V_yt_ne (tgt := 243) dL_law_201 (by decide) (fun q => z ((nI_eq (b := 11) (by omega) (by decide)).mp q)) ?_
        exact V_widen (k := 2400 + 4300 * k + 3800) (n := 21000 + 25800 * k + 22800) (by dsimp only; omega) (by dsimp only; omega) (s243 M9 L9 S9 q1 q2 qw)
    by_cases z : k % 36 = 0
    · have tl := tAll_r (S := S) (x := nI x) (y % 19)
      have wt : WK (tAll S (nI x) (y % 19)) (9900 + 99 * k) (21600000 + 216000 * k) := by
        have q := hw
        unfold WK WFS at q ⊢
        rw [tl.1]
        exact q
      have wl := K_load wt (by omega) (by omega) (by omega)
      refine V_ild4 dL_law_52 ?_
      refine V_bipush (v := 72) dL_law_54 (by decide) ?_
      refine V_yf_ge (tgt := 277) dL_law_56 (by decide) (nI_lt (b := 72) (by omega) (by decide)) ?_
      refine V_ild3 dL_law_59 ?_
      refine V_xf_eq (tgt := 277) dL_law_60 (by decide) (by decide) ?_
      refine V_ald0 dL_law_63 ?_
      refine V_iconst (v := 2) dL_law_64 (by decide) ?_
      refine V_ild4 dL_law_65 ?_
      refine V_imul dL_law_67 ?_
      rw [m2]
      refine V_cs2R lk_L_212 cc_L_draw dL_law_68 (c_L_draw hN (by omega)) (xFit.mk (by decide) (by decide) (by first | decide | (show _ ≤ 600130; dsimp only; omega)) (by first | decide | (show _ ≤ 7301080; dsimp only; omega))) rfl rfl (Nat.le_of_ble_eq_true rfl) ?_
      rw [ex]
      refine V_ist5 dL_law_71 rfl (by decide) ?_
      refine V_ald0 dL_law_73 ?_
      refine V_iconst (v := 2) dL_law_74 (by decide) ?_
      refine V_ild4 dL_law_75 ?_
      refine V_imul dL_law_77 ?_
      refine V_iconst (v := 1) dL_law_78 (by decide) ?_
      refine V_iadd dL_law_79 ?_
      rw [m2, nI_1]
      refine V_cs2R lk_L_212 cc_L_draw dL_law_80 (c_L_draw hN (by omega)) (xFit.mk (by decide) (by decide) (by first | decide | (show _ ≤ 600130; dsimp only; omega)) (by first | decide | (show _ ≤ 7301080; dsimp only; omega))) rfl rfl (Nat.le_of_ble_eq_true rfl) ?_
      rw [ey]
      refine V_ist6 dL_law_83 rfl (by decide) ?_
      refine V_ild4 dL_law_85 ?_
      refine V_bipush (v := 36) dL_law_87 (by decide) ?_
      refine V_irem dL_law_89 (by decide) ?_
      rw [k36]
      refine V_xf_ne (tgt := 136) dL_law_90 (by decide) (by rw [z]; rfl) ?_
      refine V_ald1 dL_law_93 ?_
      refine V_ild5 dL_law_94 ?_
      refine V_ild6 dL_law_96 ?_
      refine V_cs3J lk_L_227 cc_L_tells dL_law_98 (c_L_tells hA _ hy) (xFit.mk (by decide) (by decide) (by first | decide | (show _ ≤ 600130; dsimp only; omega)) (by first | decide | (show _ ≤ 7301080; dsimp only; omega))) (Nat.le_of_ble_eq_true rfl) (fun M9 L9 a1 f9 => ?_)
      refine V_xf_eq (tgt := 131) dL_law_101 (by decide) (by decide) ?_
      have hB9 := hB.fr f9 (Or.inr hd)
      refine V_ald2 dL_law_104 ?_
      refine V_ild5 dL_law_105 ?_
      refine V_ild6 dL_law_107 ?_
      refine V_cs3J lk_L_227 cc_L_tells dL_law_109 (c_L_tells hB9 _ hy) (xFit.mk (by decide) (by decide) (by first | decide | (show _ ≤ 600130; dsimp only; omega)) (by first | decide | (show _ ≤ 7301080; dsimp only; omega))) (Nat.le_of_ble_eq_true rfl) (fun M8 L8 a2 f8 => ?_)
      refine V_xf_eq (tgt := 131) dL_law_112 (by decide) (by decide) ?_
      have a1' := a1.fr f8 (Or.inl hd)
      have t1 := OK.of hl h1 a1' wt (by omega) (by omega)
      refine V_ald1 dL_law_115 ?_
      refine V_ch1J (Y' := Y_L_load) ml_L_231 ch_L_load dL_law_116 (k_load t1) (by decide) (by decide) (by first | decide | (show _ ≤ 600130; dsimp only; omega)) (by first | decide | (show _ ≤ 7301080; dsimp only; omega)) (Nat.le_of_ble_eq_true rfl) (fun M7 L7 c7 f7 => ?_)
      have t2 := OK.of hl h2 (a2.fr f7 (Or.inr hd)) wt (by omega) (by omega)
      refine V_ald2 dL_law_119 ?_
      refine V_ch1J (Y' := Y_L_load) ml_L_231 ch_L_load dL_law_120 (k_load t2) (by decide) (by decide) (by first | decide | (show _ ≤ 600130; dsimp only; omega)) (by first | decide | (show _ ≤ 7301080; dsimp only; omega)) (Nat.le_of_ble_eq_true rfl) (fun M6 L6 c6 f6 => ?_)
      refine V_zf_ne (tgt := 131) dL_law_123 dL_law_124 (by decide) (rfl) ?_
      refine V_iconst (v := 1) dL_law_127 (by decide) ?_
      refine V_goto (tgt := 132) dL_law_128 (by decide) ?_
      refine V_ist3 dL_law_132 rfl (by decide) ?_
      refine V_goto (tgt := 271) dL_law_133 (by decide) ?_
      exact V_widen (k := 2400 + 4300 * k + 4300) (n := 21000 + 25800 * k + 25800) (by dsimp only; omega) (by dsimp only; omega) (next M6 L6 _ (c7.fr f6 (Or.inl hd)) c6 wl)
    · have wa := K_act hw (by omega) (by omega) (x := nI x) (y := nI y)
      by_cases w : k % 6 = 0
      · refine V_ild4 dL_law_52 ?_
        refine V_bipush (v := 72) dL_law_54 (by decide) ?_
        refine V_yf_ge (tgt := 277) dL_law_56 (by decide) (nI_lt (b := 72) (by omega) (by decide)) ?_
        refine V_ild3 dL_law_59 ?_
        refine V_xf_eq (tgt := 277) dL_law_60 (by decide) (by decide) ?_
        refine V_ald0 dL_law_63 ?_
        refine V_iconst (v := 2) dL_law_64 (by decide) ?_
        refine V_ild4 dL_law_65 ?_
        refine V_imul dL_law_67 ?_
        rw [m2]
        refine V_cs2R lk_L_212 cc_L_draw dL_law_68 (c_L_draw hN (by omega)) (xFit.mk (by decide) (by decide) (by first | decide | (show _ ≤ 600130; dsimp only; omega)) (by first | decide | (show _ ≤ 7301080; dsimp only; omega))) rfl rfl (Nat.le_of_ble_eq_true rfl) ?_
        rw [ex]
        refine V_ist5 dL_law_71 rfl (by decide) ?_
        refine V_ald0 dL_law_73 ?_
        refine V_iconst (v := 2) dL_law_74 (by decide) ?_
        refine V_ild4 dL_law_75 ?_
        refine V_imul dL_law_77 ?_
        refine V_iconst (v := 1) dL_law_78 (by decide) ?_
        refine V_iadd dL_law_79 ?_
        rw [m2, nI_1]
        refine V_cs2R lk_L_212 cc_L_draw dL_law_80 (c_L_draw hN (by omega)) (xFit.mk (by decide) (by decide) (by first | decide | (show _ ≤ 600130; dsimp only; omega)) (by first | decide | (show _ ≤ 7301080; dsimp only; omega))) rfl rfl (Nat.le_of_ble_eq_true rfl) ?_
        rw [ey]
        refine V_ist6 dL_law_83 rfl (by decide) ?_
        refine V_ild4 dL_law_85 ?_
        refine V_bipush (v := 36) dL_law_87 (by decide) ?_
        refine V_irem dL_law_89 (by decide) ?_
        rw [k36]
        refine V_xt_ne (tgt := 136) dL_law_90 (by decide) (fun q => z ((nI_eq (b := 0) (by omega) (by decide)).mp q)) ?_
        refine V_ald1 dL_law_136 ?_
        refine V_ild5 dL_law_137 ?_
        refine V_ild6 dL_law_139 ?_
        refine V_cs3J lk_L_233 cc_L_act dL_law_141 (c_L_act hA _ _) (xFit.mk (by decide) (by decide) (by first | decide | (show _ ≤ 600130; dsimp only; omega)) (by first | decide | (show _ ≤ 7301080; dsimp only; omega))) (Nat.le_of_ble_eq_true rfl) (fun M9 L9 a1 f9 => ?_)
        have hB9 := hB.fr f9 (Or.inr hd)
        refine V_ald2 dL_law_144 ?_
        refine V_ild5 dL_law_145 ?_
        refine V_ild6 dL_law_147 ?_
        refine V_cs3J lk_L_233 cc_L_act dL_law_149 (c_L_act hB9 _ _) (xFit.mk (by decide) (by decide) (by first | decide | (show _ ≤ 600130; dsimp only; omega)) (by first | decide | (show _ ≤ 7301080; dsimp only; omega))) (Nat.le_of_ble_eq_true rfl) (fun M8 L8 a2 f8 => ?_)
        refine V_zf_ne (tgt := 160) dL_law_152 dL_law_153 (by decide) (rfl) ?_
        refine V_iconst (v := 1) dL_law_156 (by decide) ?_
        refine V_goto (tgt := 161) dL_law_157 (by decide) ?_
        refine V_ist3 dL_law_161 rfl (by decide) ?_
        refine V_ild4 dL_law_162 ?_
        refine V_bipush (v := 6) dL_law_164 (by decide) ?_
        refine V_irem dL_law_166 (by decide) ?_
        rw [k6]
        refine V_xf_ne (tgt := 194) dL_law_167 (by decide) (by rw [w]; rfl) ?_
        refine V_ild3 dL_law_170 ?_
        refine V_xf_eq (tgt := 192) dL_law_171 (by decide) (by decide) ?_
        have b2 := OK.of hl h2 a2 wa (by omega) (by omega)
        refine V_ald2 dL_law_174 ?_
        refine V_cs1J lk_L_220 cc_L_errors dL_law_175 (c_L_errors b2) (xFit.mk (by decide) (by decide) (by first | decide | (show _ ≤ 600130; dsimp only; omega)) (by first | decide | (show _ ≤ 7301080; dsimp only; omega))) (Nat.le_of_ble_eq_true rfl) (fun M7 L7 c7 f7 => ?_)
        refine V_xf_eq (tgt := 192) dL_law_178 (by decide) (by decide) ?_
        refine V_ald2 dL_law_181 ?_
        refine V_cs1J lk_L_224 cc_L_kept dL_law_182 (c_L_kept (b2.go c7) wa.2.1) (xFit.mk (by decide) (by decide) (by first | decide | (show _ ≤ 600130; dsimp only; omega)) (by first | decide | (show _ ≤ 7301080; dsimp only; omega))) (Nat.le_of_ble_eq_true rfl) (fun M6 L6 c6 f6 => ?_)
        refine V_xf_eq (tgt := 192) dL_law_185 (by decide) (by decide) ?_
        refine V_iconst (v := 1) dL_law_188 (by decide) ?_
        refine V_goto (tgt := 193) dL_law_189 (by decide) ?_
        refine V_ist3 dL_law_193 rfl (by decide) ?_
        exact V_widen (k := 2400 + 4300 * k + 1390) (n := 21000 + 25800 * k + 8340) (by dsimp only; omega) (by dsimp only; omega) (s194 M6 L6 _ (((a1.fr f8 (Or.inl hd)).fr f7 (Or.inl hd)).fr f6 (Or.inl hd)) c6 wa)
      · refine V_ild4 dL_law_52 ?_
        refine V_bipush (v := 72) dL_law_54 (by decide) ?_
        refine V_yf_ge (tgt := 277) dL_law_56 (by decide) (nI_lt (b := 72) (by omega) (by decide)) ?_
        refine V_ild3 dL_law_59 ?_
        refine V_xf_eq (tgt := 277) dL_law_60 (by decide) (by decide) ?_
        refine V_ald0 dL_law_63 ?_
        refine V_iconst (v := 2) dL_law_64 (by decide) ?_
        refine V_ild4 dL_law_65 ?_
        refine V_imul dL_law_67 ?_
        rw [m2]
        refine V_cs2R lk_L_212 cc_L_draw dL_law_68 (c_L_draw hN (by omega)) (xFit.mk (by decide) (by decide) (by first | decide | (show _ ≤ 600130; dsimp only; omega)) (by first | decide | (show _ ≤ 7301080; dsimp only; omega))) rfl rfl (Nat.le_of_ble_eq_true rfl) ?_
        rw [ex]
        refine V_ist5 dL_law_71 rfl (by decide) ?_
        refine V_ald0 dL_law_73 ?_
        refine V_iconst (v := 2) dL_law_74 (by decide) ?_
        refine V_ild4 dL_law_75 ?_
        refine V_imul dL_law_77 ?_
        refine V_iconst (v := 1) dL_law_78 (by decide) ?_
        refine V_iadd dL_law_79 ?_
        rw [m2, nI_1]
        refine V_cs2R lk_L_212 cc_L_draw dL_law_80 (c_L_draw hN (by omega)) (xFit.mk (by decide) (by decide) (by first | decide | (show _ ≤ 600130; dsimp only; omega)) (by first | decide | (show _ ≤ 7301080; dsimp only; omega))) rfl rfl (Nat.le_of_ble_eq_true rfl) ?_
        rw [ey]
        refine V_ist6 dL_law_83 rfl (by decide) ?_
        refine V_ild4 dL_law_85 ?_
        refine V_bipush (v := 36) dL_law_87 (by decide) ?_
        refine V_irem dL_law_89 (by decide) ?_
        rw [k36]
        refine V_xt_ne (tgt := 136) dL_law_90 (by decide) (fun q => z ((nI_eq (b := 0) (by omega) (by decide)).mp q)) ?_
        refine V_ald1 dL_law_136 ?_
        refine V_ild5 dL_law_137 ?_
        refine V_ild6 dL_law_139 ?_
        refine V_cs3J lk_L_233 cc_L_act dL_law_141 (c_L_act hA _ _) (xFit.mk (by decide) (by decide) (by first | decide | (show _ ≤ 600130; dsimp only; omega)) (by first | decide | (show _ ≤ 7301080; dsimp only; omega))) (Nat.le_of_ble_eq_true rfl) (fun M9 L9 a1 f9 => ?_)
        have hB9 := hB.fr f9 (Or.inr hd)
        refine V_ald2 dL_law_144 ?_
        refine V_ild5 dL_law_145 ?_
        refine V_ild6 dL_law_147 ?_
        refine V_cs3J lk_L_233 cc_L_act dL_law_149 (c_L_act hB9 _ _) (xFit.mk (by decide) (by decide) (by first | decide | (show _ ≤ 600130; dsimp only; omega)) (by first | decide | (show _ ≤ 7301080; dsimp only; omega))) (Nat.le_of_ble_eq_true rfl) (fun M8 L8 a2 f8 => ?_)
        refine V_zf_ne (tgt := 160) dL_law_152 dL_law_153 (by decide) (rfl) ?_
        refine V_iconst (v := 1) dL_law_156 (by decide) ?_
        refine V_goto (tgt := 161) dL_law_157 (by decide) ?_
        refine V_ist3 dL_law_161 rfl (by decide) ?_
        refine V_ild4 dL_law_162 ?_
        refine V_bipush (v := 6) dL_law_164 (by decide) ?_
        refine V_irem dL_law_166 (by decide) ?_
        rw [k6]
        refine V_xt_ne (tgt := 194) dL_law_167 (by decide) (fun q => w ((nI_eq (b := 0) (by omega) (by decide)).mp q)) ?_
        exact V_widen (k := 2400 + 4300 * k + 1390) (n := 21000 + 25800 * k + 8340) (by dsimp only; omega) (by dsimp only; omega) (s194 M8 L8 _ (a1.fr f8 (Or.inl hd)) a2 wa)
end C89

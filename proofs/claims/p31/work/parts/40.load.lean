/-! ===== the whole object: load ===== -/
def kdLoad (S : xSp) : Nat := if kFirst (kSg S.2.1 S.1) S.1 = -9 then 0 else 1
section P40
variable {g : Nat → Int32} {a : Nat} {R : xRow} {T B : Nat}
theorem kErrP_d (h : kErrP g a = -9) (ha : a < 800) (e : g a = 100) : (∃ k, k ≤ 99 ∧ rNum g (a + 1) = nI k) ∧ ∃ k, 1 ≤ k ∧ k ≤ 60 ∧ rNum g (a + 3) = nI k := by
  unfold kErrP at h; rw [if_pos e] at h; exact kErrD0 (by omega) h
theorem kErrP_g (h : kErrP g a = -9) (ha : a < 800) (e : g a = 103) : ∃ k, 1 ≤ k ∧ k ≤ 9 ∧ g (a + 1) - 48 = nI k := by
  unfold kErrP at h; rw [if_neg (by rw [e]; decide), if_pos e] at h; exact kErr1 (by omega) h
theorem kErrP_p (h : kErrP g a = -9) (ha : a < 800) (e : g a = 112) : ∃ k, 1 ≤ k ∧ k ≤ 99 ∧ rNum g (a + 1) = nI k := by
  unfold kErrP at h; rw [if_neg (by rw [e]; decide), if_neg (by rw [e]; decide), if_pos e] at h; exact kErr2 (lo := 1) (hi := 99) (by omega) (by omega) (by omega) h
theorem kErrP_t (h : kErrP g a = -9) (ha : a < 800) (e : g a = 116) : ∃ k, 0 ≤ k ∧ k ≤ 40 ∧ rNum g (a + 1) = nI k := by
  unfold kErrP at h; rw [if_neg (by rw [e]; decide), if_neg (by rw [e]; decide), if_neg (by rw [e]; decide), if_pos e] at h; exact kErr2 (lo := 0) (hi := 40) (by omega) (by omega) (by omega) h
theorem kErrP_w (h : kErrP g a = -9) (ha : a < 800) (e : g a = 119) : ∃ k, 0 ≤ k ∧ k ≤ 20 ∧ rNum g (a + 1) = nI k := by
  unfold kErrP at h; rw [if_neg (by rw [e]; decide), if_neg (by rw [e]; decide), if_neg (by rw [e]; decide), if_neg (by rw [e]; decide), if_pos e] at h; exact kErr2 (lo := 0) (hi := 20) (by omega) (by omega) (by omega) h
theorem kErrP_no (h : kErrP g a = -9) (ha : a < 800) (e1 : ¬ 100 = g a) (e2 : ¬ 103 = g a) (e3 : ¬ 112 = g a) (e4 : ¬ 116 = g a) (e5 : ¬ 119 = g a) : False := by
  rcases kErrP0 ha h with ⟨c, -⟩ | ⟨c, -⟩ | ⟨c, -⟩ | ⟨c, -⟩ | ⟨c, -⟩
  · exact e1 c.symm
  · exact e2 c.symm
  · exact e3 c.symm
  · exact e4 c.symm
  · exact e5 c.symm
theorem xOkS {k j : Nat} (hk : k ≤ 4) {lo hi : Nat} (h1 : xLeast k = nI lo) (h2 : xGreatest k = nI hi) (h3 : lo ≤ j) (h4 : j ≤ hi) (h5 : hi < 2 ^ 31) : ¬ (nI j < xLeast k ∨ xGreatest k < nI j) := by
  rw [h1, h2, not_or]; exact ⟨nI_nlt h3 (by omega), nI_nlt h4 h5⟩
theorem rPart_d (e : g a = 100) : rPart g a R = rDr R (rNum g (a + 1)) (rNum g (a + 3)) := by unfold rPart; rw [if_pos e]
theorem rPart_g (e : g a = 103) : rPart g a R = upR R 3 (g (a + 1) - 48) := by unfold rPart; rw [if_neg (by rw [e]; decide), if_pos e]
theorem rPart_p (e : g a = 112) : rPart g a R = rGo R (rNum g (a + 1)) := by unfold rPart; rw [if_neg (by rw [e]; decide), if_neg (by rw [e]; decide), if_pos e]
theorem rPart_t (e : g a = 116) : rPart g a R = upR R 1 (rNum g (a + 1)) := by unfold rPart; rw [if_neg (by rw [e]; decide), if_neg (by rw [e]; decide), if_neg (by rw [e]; decide), if_pos e]
theorem rPart_w (e : g a = 119) : rPart g a R = upR R 2 (rNum g (a + 1)) := by unfold rPart; rw [if_neg (by rw [e]; decide), if_neg (by rw [e]; decide), if_neg (by rw [e]; decide), if_neg (by rw [e]; decide), if_pos e]
/-- a drop's fall keeps the ranges, the lengths being what the row tells -/
theorem WFr.dr (h : WFr R T B) {d z : Nat} (hz : 1 ≤ z ∧ z ≤ 60) (hT : T + d < 2 ^ 30) (hB : B < 2 ^ 30) : WFr (rDr R (nI d) (nI z)) (T + d) (B + 216000) := by
  obtain ⟨lf, -, f2, e47⟩ := h.2.2.2.2.2.2.2.2.2.2.2.1
  obtain ⟨lr, r2, e108, -⟩ := h.2.2.2.2.2.2.2.2.2.2.2.2.1
  unfold rDr
  rw [e47, e108, nI_clamp (by omega), nI_clamp (by omega)]
  exact h.drop hz e47 e108 f2 r2 hT hB
theorem WFr.part (h : WFr R T B) (hp : kErrP g a = -9) (ha : a < 800) (hT : T ≤ 10000000) (hB : B < 2 ^ 30) : WFr (rPart g a R) (T + 99) (B + 216000) := by
  rcases kErrP0 ha hp with ⟨c, ⟨d, d1, ed⟩, z, z1, z2, ez⟩ | ⟨c, k, k1, k2, ek⟩ | ⟨c, k, k1, k2, ek⟩ | ⟨c, k, k1, k2, ek⟩ | ⟨c, k, k1, k2, ek⟩
  · rw [rPart_d c, ed, ez]; exact (h.dr ⟨z1, z2⟩ (by omega) hB).mono (by omega) (by omega)
  · rw [rPart_g c, ek]; exact (h.set (k := 2) (by decide) (xOkS (lo := 1) (hi := 9) (by decide) rfl rfl k1 k2 (by decide))).mono (by omega) (by omega)
  · rw [rPart_p c, ek]; exact (h.go (d := k)).mono (by omega) (by omega)
  · rw [rPart_t c, ek]; exact (h.set (k := 0) (by decide) (xOkS (lo := 0) (hi := 40) (by decide) rfl rfl k1 k2 (by decide))).mono (by omega) (by omega)
  · rw [rPart_w c, ek]; exact (h.set (k := 1) (by decide) (xOkS (lo := 0) (hi := 20) (by decide) rfl rfl k1 k2 (by decide))).mono (by omega) (by omega)
theorem WFr.cln : WFr rCln 0 0 := by
  refine ⟨⟨0, by decide, by decide, rfl⟩, ⟨3, by decide, by decide, rfl⟩, ⟨4, by decide, by decide, rfl⟩, ⟨20, by decide, by decide, rfl⟩, ⟨3000, by decide, by decide, rfl⟩, Or.inl rfl, Or.inl rfl, Or.inl rfl, ⟨0, by decide, by decide, rfl⟩, ⟨0, 0, 0, rfl, rfl, rfl, by decide, by decide, by decide⟩, fun k hk => ?_, ⟨0, by decide, by decide, rfl⟩, ⟨0, by decide, rfl, fun j hj => absurd hj (Nat.not_lt_zero _)⟩, ⟨0, by decide, by decide, rfl⟩⟩
  have : k = 0 ∨ k = 1 ∨ k = 2 ∨ k = 3 ∨ k = 4 ∨ k = 5 ∨ k = 6 := by omega
  rcases this with rfl | rfl | rfl | rfl | rfl | rfl | rfl
  · exact ⟨100, by decide, by decide, rfl⟩
  · exact ⟨225, by decide, by decide, rfl⟩
  · exact ⟨400, by decide, by decide, rfl⟩
  · exact ⟨900, by decide, by decide, rfl⟩
  · exact ⟨1600, by decide, by decide, rfl⟩
  · exact ⟨2500, by decide, by decide, rfl⟩
  · exact ⟨3600, by decide, by decide, rfl⟩
theorem kFirst_ok {len : Nat} (h : kFirst g len = -9) : kFiE g len 100 1 = -9 := by
  unfold kFirst at h
  split at h
  · exact h
  · exact absurd h (by decide)
theorem WFr.load {len : Nat} (hl : len ≤ 100) : ∀ (d k a : Nat) (R : xRow), k + d = 100 → a ≤ 5 * k + 1 → kFiE g len d a = -9 → WFr R (99 * k) (216000 * k) → WFr (rLoad g len d a R) 9900 21600000
  | 0, k, a, R, h1, h2, h3, h4 => by
    have : k = 100 := by omega
    subst this
    exact h4
  | d + 1, k, a, R, h1, h2, h3, h4 => by
    unfold rLoad
    by_cases c : a < len
    · rw [if_pos c]
      obtain ⟨e1, e2⟩ := kFiE_go h3 c hl
      have := kPaL_le g a
      exact WFr.load hl d (k + 1) _ _ (by omega) (by omega) e2 ((h4.part e1 (by omega) (by omega) (by omega)).mono (by omega) (by omega))
    · rw [if_neg c]; exact h4.mono (by omega) (by omega)
end P40
section C40
variable {E : xEnv} {l : Launch} {x : Bool} {n : Nat} {K : xKnd} {G : xRef} {M : xMem} {L : xLng} {o T B : Nat} {S : xSp}
theorem c_X5_runPart (h : rX n K G o) (hc : CRel M L o S) (hw : WFr S.2.2.1 T B) (hT : T ≤ 10000000) (hB : B < 2 ^ 30) {a : Nat} (ha : a < 700) (hp : kErrP (kSg S.2.1 S.1) a = -9) :
    Con E l Y_X5_runPart [.ref o, .int (nI a)] (x, n, K, G, M, L) (xG 0 none (sNow S (rPart (kSg S.2.1 S.1) a S.2.2.1)) o x n K G M L) xF := by
  obtain ⟨h0, g0, hTx, g1, h1, -⟩ := h
  have hTx0 := hTx.1
  have h10 := h1.1
  have gp := h1.2.1
  have hpl := h1.2.2.1
  have hp0 := hpl.1
  have gs := hpl.2.1
  have hss := hpl.2.2.1
  have c0 := hc.1
  have eg : kSg (M (o + 1 + 1)) S.1 = kSg S.2.1 S.1 := kSg_eq hc.2.1
  generalize kSg S.2.1 S.1 = g at *
  have en : ∀ j, (g j - 48) * 10 + (g (j + 1) - 48) = rNum g j := fun j => rfl
  refine Con.mk 1 mp_X5_runPart rfl (ls := [some (.ref o), some (.int (nI a)), none]) rfl (Nat.le_of_ble_eq_true rfl) ?_
  refine V_ald0 dX5_runPart_0 ?_
  refine V_getR fd_X5_10 dX5_runPart_1 (by assumption) (by assumption) rfl ?_
  refine V_ild1 dX5_runPart_4 ?_
  refine V_iconst (v := 1) dX5_runPart_5 (by decide) ?_
  refine V_iadd dX5_runPart_6 ?_
  rw [nI_1]
  refine V_cv1R lk_X5_320 cc_X4_numberAt dX5_runPart_7 (by assumption) (c_X4_numberAt hTx c0 (j := a + 1) (by omega)) ft_X5_runPart_X4_numberAt rfl rfl (Nat.le_of_ble_eq_true rfl) ?_
  rw [eg, en]
  refine V_ist2 dX5_runPart_10 rfl (by decide) ?_
  refine V_ald0 dX5_runPart_11 ?_
  refine V_getR fd_X5_10 dX5_runPart_12 (by assumption) (by assumption) rfl ?_
  refine V_ild1 dX5_runPart_15 ?_
  refine V_cv1R lk_X5_323 cc_X4_signAt dX5_runPart_16 (by assumption) (c_X4_signAt hTx c0 (j := a) (by omega)) ft_X5_runPart_X4_signAt rfl rfl (Nat.le_of_ble_eq_true rfl) ?_
  rw [eg]
  refine V_topi (fun y19 e19 => ?_)
  by_cases s19_100 : y19 = 100
  · subst s19_100
    refine V_lookup (tgt := 68) (off := 49) dX5_runPart_19 (by decide) (by decide) (by decide) ?_
    obtain ⟨⟨d, d1, ed⟩, z, z1, z2, ez⟩ := kErrP_d hp (by omega) e19.symm
    obtain ⟨w, lf, v, lr, i1, i2, i3, i4⟩ := AlE.fall hc.2.2.1 hw (d := d) (z := z) (by omega) ⟨z1, z2⟩ hT hB
    have er : rPart g a S.2.2.1 = rDr S.2.2.1 (nI d) (nI z) := by rw [rPart_d e19.symm, ed, ez]
    rw [er, ed]
    have kk := hc.now (fun k i q1 q2 q3 => kFallM_k (by omega)) (fun k q1 => kEntL_k (by omega)) i3
    have ff : Fr o M L (kFallM M (o + 3) w lf v lr (nI d) (nI z) (rDrF S.2.2.1 (nI d) (nI z))) (kEntL L (o + 3 + 7) (nI z)) := fun k hk => ⟨fun i => kFallM_k (by omega), fun i => kEntL_k (by omega)⟩
    refine V_ald0 dX5_runPart_68 ?_
    refine V_getR fd_X5_19 dX5_runPart_69 (by assumption) (by assumption) rfl ?_
    refine V_ild2 dX5_runPart_72 ?_
    refine V_ald0 dX5_runPart_73 ?_
    refine V_getR fd_X5_10 dX5_runPart_74 (by assumption) (by assumption) rfl ?_
    refine V_ild1 dX5_runPart_77 ?_
    refine V_iconst (v := 3) dX5_runPart_78 (by decide) ?_
    refine V_iadd dX5_runPart_79 ?_
    rw [show nI a + 3 = nI (a + 3) from nI_add a 3]
    refine V_cv1R lk_X5_320 cc_X4_numberAt dX5_runPart_80 (by assumption) (c_X4_numberAt hTx c0 (j := a + 3) (by omega)) ft_X5_runPart_X4_numberAt rfl rfl (Nat.le_of_ble_eq_true rfl) ?_
    rw [eg, en, ez]
    refine V_cv2R lk_X5_225 cc_X3_letFall dX5_runPart_83 (by assumption) (c_X3_letFall h1 i1 _ _ i2 rFt_lt) ft_X5_runPart_X3_letFall rfl rfl (Nat.le_of_ble_eq_true rfl) ?_
    refine V_pop dX5_runPart_86 rfl ?_
    refine V_goto (tgt := 161) dX5_runPart_87 (by decide) ?_
    first
    | exact V_vret rfl dX5_runPart_161 (by decide) (by decide) ⟨rfl, rfl, _, _, rfl, kk, ff⟩
    | exact absurd hp (fun q => kErrP_no q (by omega) (fun z => s19_100 (e19.trans z.symm)) (fun z => s19_103 (e19.trans z.symm)) (fun z => s19_112 (e19.trans z.symm)) (fun z => s19_116 (e19.trans z.symm)) (fun z => s19_119 (e19.trans z.symm)))
  by_cases s19_103 : y19 = 103
  · subst s19_103
    refine V_lookup (tgt := 136) (off := 117) dX5_runPart_19 (by decide) (by decide) (by decide) ?_
    rw [rPart_g e19.symm]
    have kk := hc.now (fun k i q1 q2 q3 => xup_k (by omega)) (fun k q1 => rfl) (hc.2.2.1.set (k := 2) (by decide) (g (a + 1) - 48))
    have ff : Fr o M L (xup M (o + 3 + 1 + 1) 2 (g (a + 1) - 48)) L := fun k hk => ⟨fun i => xup_k (by omega), fun i => rfl⟩
    refine V_ald0 dX5_runPart_136 ?_
    refine V_getR fd_X5_19 dX5_runPart_137 (by assumption) (by assumption) rfl ?_
    refine V_getR fd_X5_109 dX5_runPart_140 (by assumption) (by assumption) rfl ?_
    refine V_getR fd_X5_152 dX5_runPart_143 (by assumption) (by assumption) rfl ?_
    refine V_iconst (v := 2) dX5_runPart_146 (by decide) ?_
    refine V_ald0 dX5_runPart_147 ?_
    refine V_getR fd_X5_10 dX5_runPart_148 (by assumption) (by assumption) rfl ?_
    refine V_ild1 dX5_runPart_151 ?_
    refine V_iconst (v := 1) dX5_runPart_152 (by decide) ?_
    refine V_iadd dX5_runPart_153 ?_
    rw [nI_1]
    refine V_cv1R lk_X5_326 cc_X4_digitAt dX5_runPart_154 (by assumption) (c_X4_digitAt hTx c0 (j := a + 1) (by omega)) ft_X5_runPart_X4_digitAt rfl rfl (Nat.le_of_ble_eq_true rfl) ?_
    rw [eg]
    refine V_iast (j := 2) dX5_runPart_157 (by assumption) (by decide) (by decide) ?_
    refine V_goto (tgt := 161) dX5_runPart_158 (by decide) ?_
    first
    | exact V_vret rfl dX5_runPart_161 (by decide) (by decide) ⟨rfl, rfl, _, _, rfl, kk, ff⟩
    | exact absurd hp (fun q => kErrP_no q (by omega) (fun z => s19_100 (e19.trans z.symm)) (fun z => s19_103 (e19.trans z.symm)) (fun z => s19_112 (e19.trans z.symm)) (fun z => s19_116 (e19.trans z.symm)) (fun z => s19_119 (e19.trans z.symm)))
  by_cases s19_112 : y19 = 112
  · subst s19_112
    refine V_lookup (tgt := 90) (off := 71) dX5_runPart_19 (by decide) (by decide) (by decide) ?_
    obtain ⟨k, k1, k2, ek⟩ := kErrP_p hp (by omega) e19.symm
    rw [rPart_p e19.symm, ek]
    have kk := hc.now (fun k i q1 q2 q3 => kPass_k (by omega)) (fun k q1 => rfl) (AlE.pass hc.2.2.1 hw (d := k) ⟨k1, by omega⟩).1
    have ff : Fr o M L (kPass M (o + 3 + 1) (nI k)) L := fun k hk => ⟨fun i => kPass_k (by omega), fun i => rfl⟩
    refine V_ald0 dX5_runPart_90 ?_
    refine V_getR fd_X5_19 dX5_runPart_91 (by assumption) (by assumption) rfl ?_
    refine V_getR fd_X5_109 dX5_runPart_94 (by assumption) (by assumption) rfl ?_
    refine V_ild2 dX5_runPart_97 ?_
    refine V_cv1U lk_X5_230 cc_X2_letPass dX5_runPart_98 (by assumption) (c_X2_letPass hpl _) ft_X5_runPart_X2_letPass rfl rfl (Nat.le_of_ble_eq_true rfl) ?_
    refine V_goto (tgt := 161) dX5_runPart_101 (by decide) ?_
    first
    | exact V_vret rfl dX5_runPart_161 (by decide) (by decide) ⟨rfl, rfl, _, _, rfl, kk, ff⟩
    | exact absurd hp (fun q => kErrP_no q (by omega) (fun z => s19_100 (e19.trans z.symm)) (fun z => s19_103 (e19.trans z.symm)) (fun z => s19_112 (e19.trans z.symm)) (fun z => s19_116 (e19.trans z.symm)) (fun z => s19_119 (e19.trans z.symm)))
  by_cases s19_116 : y19 = 116
  · subst s19_116
    refine V_lookup (tgt := 104) (off := 85) dX5_runPart_19 (by decide) (by decide) (by decide) ?_
    rw [rPart_t e19.symm]
    have kk := hc.now (fun k i q1 q2 q3 => xup_k (by omega)) (fun k q1 => rfl) (hc.2.2.1.set (k := 0) (by decide) (rNum g (a + 1)))
    have ff : Fr o M L (xup M (o + 3 + 1 + 1) 0 (rNum g (a + 1))) L := fun k hk => ⟨fun i => xup_k (by omega), fun i => rfl⟩
    refine V_ald0 dX5_runPart_104 ?_
    refine V_getR fd_X5_19 dX5_runPart_105 (by assumption) (by assumption) rfl ?_
    refine V_getR fd_X5_109 dX5_runPart_108 (by assumption) (by assumption) rfl ?_
    refine V_getR fd_X5_152 dX5_runPart_111 (by assumption) (by assumption) rfl ?_
    refine V_iconst (v := 0) dX5_runPart_114 (by decide) ?_
    refine V_ild2 dX5_runPart_115 ?_
    refine V_iast (j := 0) dX5_runPart_116 (by assumption) (by decide) (by decide) ?_
    refine V_goto (tgt := 161) dX5_runPart_117 (by decide) ?_
    first
    | exact V_vret rfl dX5_runPart_161 (by decide) (by decide) ⟨rfl, rfl, _, _, rfl, kk, ff⟩
    | exact absurd hp (fun q => kErrP_no q (by omega) (fun z => s19_100 (e19.trans z.symm)) (fun z => s19_103 (e19.trans z.symm)) (fun z => s19_112 (e19.trans z.symm)) (fun z => s19_116 (e19.trans z.symm)) (fun z => s19_119 (e19.trans z.symm)))
  by_cases s19_119 : y19 = 119
  · subst s19_119
    refine V_lookup (tgt := 120) (off := 101) dX5_runPart_19 (by decide) (by decide) (by decide) ?_
    rw [rPart_w e19.symm]
    have kk := hc.now (fun k i q1 q2 q3 => xup_k (by omega)) (fun k q1 => rfl) (hc.2.2.1.set (k := 1) (by decide) (rNum g (a + 1)))
    have ff : Fr o M L (xup M (o + 3 + 1 + 1) 1 (rNum g (a + 1))) L := fun k hk => ⟨fun i => xup_k (by omega), fun i => rfl⟩
    refine V_ald0 dX5_runPart_120 ?_
    refine V_getR fd_X5_19 dX5_runPart_121 (by assumption) (by assumption) rfl ?_
    refine V_getR fd_X5_109 dX5_runPart_124 (by assumption) (by assumption) rfl ?_
    refine V_getR fd_X5_152 dX5_runPart_127 (by assumption) (by assumption) rfl ?_
    refine V_iconst (v := 1) dX5_runPart_130 (by decide) ?_
    refine V_ild2 dX5_runPart_131 ?_
    refine V_iast (j := 1) dX5_runPart_132 (by assumption) (by decide) (by decide) ?_
    refine V_goto (tgt := 161) dX5_runPart_133 (by decide) ?_
    first
    | exact V_vret rfl dX5_runPart_161 (by decide) (by decide) ⟨rfl, rfl, _, _, rfl, kk, ff⟩
    | exact absurd hp (fun q => kErrP_no q (by omega) (fun z => s19_100 (e19.trans z.symm)) (fun z => s19_103 (e19.trans z.symm)) (fun z => s19_112 (e19.trans z.symm)) (fun z => s19_116 (e19.trans z.symm)) (fun z => s19_119 (e19.trans z.symm)))
  refine V_lookup (tgt := 161) (off := 142) dX5_runPart_19 (by decide) (by have q100 : y19.toInt ≠ 100 := xne s19_100; have q103 : y19.toInt ≠ 103 := xne s19_103; have q112 : y19.toInt ≠ 112 := xne s19_112; have q116 : y19.toInt ≠ 116 := xne s19_116; have q119 : y19.toInt ≠ 119 := xne s19_119; simp [Op.lookupswitch.offset, q100, Ne.symm q100, q103, Ne.symm q103, q112, Ne.symm q112, q116, Ne.symm q116, q119, Ne.symm q119]) (by decide) ?_
  first
  | exact V_vret rfl dX5_runPart_161 (by decide) (by decide) ⟨rfl, rfl, _, _, rfl, kk, ff⟩
  | exact absurd hp (fun q => kErrP_no q (by omega) (fun z => s19_100 (e19.trans z.symm)) (fun z => s19_103 (e19.trans z.symm)) (fun z => s19_112 (e19.trans z.symm)) (fun z => s19_116 (e19.trans z.symm)) (fun z => s19_119 (e19.trans z.symm)))
theorem c_X5_load (hl9 : l.stackTraces = false) (h : rX n K G o) (hc : CRel M L o S) : Con E l Y_X5_load [.ref o] (x, n, K, G, M, L)
    (xG (kdLoad S) (some (.int (rDrops (sLoad S).2.2.1))) (sLoad S) o x n K G M L) (xC (kdLoad S) nsS (x, n, K, G, M, L)) := by
  have hr := h
  obtain ⟨h0, g0, hTx, g1, h1, g2, h2, -⟩ := h
  have hTx0 := hTx.1
  have h10 := h1.1
  have ga := h1.2.2.2.1
  have ha := h1.2.2.2.2
  have ha0 := ha.1
  have c0 := hc.1
  have l100 := c0.2
  have eg : kSg (M (o + 1 + 1)) S.1 = kSg S.2.1 S.1 := kSg_eq hc.2.1
  have ip : iPl M (o + 18 + 1) := by
    obtain ⟨w, lf, v, lr, q⟩ := hc.2.2.2.1
    exact q.ipl WFr.cln
  have loop : kdLoad S = 0 → ∀ (d k a : Nat) (M1 : xMem) (L1 : xLng) (R1 : xRow), k + d = 100 → a ≤ 5 * k + 1 → kFiE (kSg S.2.1 S.1) S.1 d a = -9 → CRel M1 L1 o (S.1, S.2.1, R1, 0, S.2.2.2.2.1, (fun _ => false), S.2.2.2.2.2.2) → WFr R1 (99 * k) (216000 * k) → Fr o M L M1 L1 →
      rLoad (kSg S.2.1 S.1) S.1 100 1 rCln = rLoad (kSg S.2.1 S.1) S.1 d a R1 →
      V E l Y_X5_load (xQm E Y_X5_load (xG (kdLoad S) (some (.int (rDrops (sLoad S).2.2.1))) (sLoad S) o x n K G M L) (xC (kdLoad S) nsS (x, n, K, G, M, L))) (x, n, K, G, M1, L1) (0, 0) 52 [some (.ref o), some (.int (nI a)), some (.int (nI k))] [] := by
    intro kd d
    have fin : ∀ (a k : Nat) (M1 : xMem) (L1 : xLng) (R1 : xRow), CRel M1 L1 o (S.1, S.2.1, R1, 0, S.2.2.2.2.1, (fun _ => false), S.2.2.2.2.2.2) → Fr o M L M1 L1 → rLoad (kSg S.2.1 S.1) S.1 100 1 rCln = R1 →
        V E l Y_X5_load (xQm E Y_X5_load (xG (kdLoad S) (some (.int (rDrops (sLoad S).2.2.1))) (sLoad S) o x n K G M L) (xC (kdLoad S) nsS (x, n, K, G, M, L))) (x, n, K, G, M1, L1) (0, 0) 91 [some (.ref o), some (.int (nI a)), some (.int (nI k))] [] := by
      intro a k M1 L1 R1 c1 f1 e1
      subst e1
      have dr : kSum (M1 (o + 3 + 7 + 1)) 4 = rDrops (sLoad S).2.2.1 := by
        obtain ⟨w, lf, v, lr, q⟩ := c1.2.2.1
        exact q.2.drops
      refine V_ald0 dX5_load_91 ?_
      refine V_getR fd_X5_19 dX5_load_92 (by assumption) (by assumption) rfl ?_
      refine V_getR fd_X5_100 dX5_load_95 (by assumption) (by assumption) rfl ?_
      refine V_cv0R lk_X5_104 cc_X0_dropCount dX5_load_98 (by assumption) (c_X0_dropCount ha) ft_X5_load_X0_dropCount rfl rfl (Nat.le_of_ble_eq_true rfl) ?_
      exact V_iret rfl dX5_load_101 (by decide) (by decide) ⟨kd, by rw [dr], _, _, rfl, c1, f1⟩
    induction d with
    | zero =>
      intro k a M1 L1 R1 hk hak hf c1 w1 f1 he
      have e : k = 100 := by omega
      subst e
      refine V_ild2 dX5_load_52 ?_
      refine V_bipush (v := 100) dX5_load_53 (by decide) ?_
      refine V_icmp_ge (tgt := 91) dX5_load_55 (by decide) (fun h55 => ?_) (fun h55 => ?_)
      · exact fin a 100 M1 L1 R1 c1 f1 he
      · exact absurd h55 (by decide)
    | succ d ih =>
      intro k a M1 L1 R1 hk hak hf c1 w1 f1 he
      have e2 : nI a < nI S.1 ↔ a < S.1 := nI_ltI (by omega) (by omega)
      have hl : M1 (o + 1) 1 = nI S.1 := c1.1.1
      refine V_ild2 dX5_load_52 ?_
      refine V_bipush (v := 100) dX5_load_53 (by decide) ?_
      refine V_icmp_ge (tgt := 91) dX5_load_55 (by decide) (fun h55 => ?_) (fun h55 => ?_)
      · exact absurd (nI_lt (b := 100) (by omega) (by decide)) h55
      · refine V_ild1 dX5_load_58 ?_
        refine V_ald0 dX5_load_59 ?_
        refine V_getR fd_X5_10 dX5_load_60 (by assumption) (by assumption) rfl ?_
        refine V_getI fd_X5_90 dX5_load_63 (by assumption) rfl ?_
        refine V_icmp_ge (tgt := 91) dX5_load_66 (by decide) (fun h66 => ?_) (fun h66 => ?_)
        · rw [hl, e2] at h66
          exact fin a k M1 L1 R1 c1 f1 (by rw [he]; unfold rLoad; rw [if_neg h66])
        · rw [hl, e2] at h66
          obtain ⟨e3, e4⟩ := kFiE_go hf h66 l100
          refine V_ald0 dX5_load_69 ?_
          refine V_ild1 dX5_load_70 ?_
          refine V_cv1P lk_X5_93 cc_X5_runPart dX5_load_71 (by assumption) (c_X5_runPart hr c1 w1 (by omega) (by omega) (a := a) (by omega) e3) ft_X5_load_X5_runPart (Nat.le_of_ble_eq_true rfl) (fun o9 q9 hq9 => ?_)
          obtain ⟨-, rfl, M2, L2, rfl, c2, f2⟩ := hq9
          have eg2 : kSg (M2 (o + 1 + 1)) S.1 = kSg S.2.1 S.1 := kSg_eq c2.2.1
          have pl := kPaL_le (kSg S.2.1 S.1) a
          show V E l _ _ _ (0, 0) 74 _ []
          refine V_ild1 dX5_load_74 ?_
          refine V_ald0 dX5_load_75 ?_
          refine V_getR fd_X5_10 dX5_load_76 (by assumption) (by assumption) rfl ?_
          refine V_ild1 dX5_load_79 ?_
          refine V_cv1R lk_X5_97 cc_X4_partLength dX5_load_80 (by assumption) (c_X4_partLength hTx c2.1 (j := a) (by omega)) ft_X5_load_X4_partLength rfl rfl (Nat.le_of_ble_eq_true rfl) ?_
          rw [show (sNow (S.1, S.2.1, R1, 0, S.2.2.2.2.1, (fun _ => false), S.2.2.2.2.2.2) (rPart (kSg (S.1, S.2.1, R1, 0, S.2.2.2.2.1, (fun _ => false), S.2.2.2.2.2.2).2.1 (S.1, S.2.1, R1, 0, S.2.2.2.2.1, (fun _ => false), S.2.2.2.2.2.2).1) a (S.1, S.2.1, R1, 0, S.2.2.2.2.1, (fun _ => false), S.2.2.2.2.2.2).2.2.1)).1 = S.1 from rfl, eg2]
          refine V_iadd dX5_load_83 ?_
          rw [nI_add]
          refine V_ist1 dX5_load_84 rfl (by decide) ?_
          refine V_inc2 dX5_load_85 rfl (nI_1 k) ?_
          refine V_goto (tgt := 52) dX5_load_88 (by decide) ?_
          refine ih (k + 1) _ M2 L2 _ (by omega) (by omega) e4 c2 ((w1.part e3 (by omega) (by omega) (by omega)).mono (by omega) (by omega)) (f1.trans f2) ?_
          rw [he]
          show rLoad (kSg S.2.1 S.1) S.1 (d + 1) a R1 = _
          rw [rLoad, if_pos h66]
  refine Con.mk 2 mp_X5_load rfl (ls := [some (.ref o), none, none]) rfl (Nat.le_of_ble_eq_true rfl) ?_
  refine V_ald0 dX5_load_0 ?_
  refine V_getR fd_X5_10 dX5_load_1 (by assumption) (by assumption) rfl ?_
  refine V_cv0R lk_X5_81 cc_X4_firstError dX5_load_4 (by assumption) (c_X4_firstError hTx c0) ft_X5_load_X4_firstError rfl rfl (Nat.le_of_ble_eq_true rfl) ?_
  rw [eg]
  refine V_bipush (v := (-9)) dX5_load_7 (by decide) ?_
  refine V_icmp_eq (tgt := 22) dX5_load_9 (by decide) (fun h9 => ?_) (fun h9 => ?_)
  · refine V_ald0 dX5_load_22 ?_
    refine V_getR fd_X5_19 dX5_load_23 (by assumption) (by assumption) rfl ?_
    refine V_ald0 dX5_load_26 ?_
    refine V_getR fd_X5_23 dX5_load_27 (by assumption) (by assumption) rfl ?_
    refine V_cv1U lk_X5_86 cc_X3_copyFrom dX5_load_30 h10 (c_X3_copyFrom h2 h1 (by omega) ip) ft_X5_load_X3_copyFrom rfl rfl (Nat.le_of_ble_eq_true rfl) ?_
    refine V_ald0 dX5_load_33 ?_
    refine V_iconst (v := 0) dX5_load_34 (by decide) ?_
    refine V_putI fw_X5_37 dX5_load_35 (by assumption) rfl ?_
    refine V_ald0 dX5_load_38 ?_
    refine V_iconst (v := 0) dX5_load_39 (by decide) ?_
    refine V_putZ fw_X5_46 dX5_load_40 (by assumption) (Or.inl rfl) rfl ?_
    refine V_ald0 dX5_load_43 ?_
    refine V_iconst (v := 0) dX5_load_44 (by decide) ?_
    refine V_putZ fw_X5_50 dX5_load_45 (by assumption) (Or.inl rfl) rfl ?_
    refine V_iconst (v := 1) dX5_load_48 (by decide) ?_
    refine V_ist1 dX5_load_49 rfl (by decide) ?_
    refine V_iconst (v := 0) dX5_load_50 (by decide) ?_
    refine V_ist2 dX5_load_51 rfl (by decide) ?_
    refine loop (by unfold kdLoad; rw [if_pos h9]) 100 0 1 _ _ rCln (by omega) (by omega) (kFirst_ok h9) ((hc.back (s := o + 18) (by omega) hc.2.2.2.1).unf) WFr.cln (fun k hk => ⟨fun i => by rw [xup_k (by omega), xup_k (by omega), xup_k (by omega), kStCp_k (by omega)], fun i => kAcCpL_k (by omega)⟩) rfl
  · exact V_throw th_X5_84 hl9 rfl dX5_load_12 dX5_load_15 dX5_load_16 dX5_load_18 dX5_load_21 (by decide) (by decide) (by decide) (by decide) (xC_mk 0 (by unfold kdLoad; rw [if_neg h9]) rfl)
end C40

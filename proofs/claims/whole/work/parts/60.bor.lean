/-! ===== the reference: borders; a clean row ===== -/
section C60
variable {E : xEnv} {l : Launch} {x : Bool} {n : Nat} {K : xKnd} {G : xRef} {M : xMem} {L : xLng} {a m T B : Nat} {S : xSp}
theorem c_X6_setBorder (h : rM n K G m) (hc : MRel M m S) (w v : Int32) : Con E l Y_X6_setBorder [.ref m, .int w, .int v] (x, n, K, G, M, L)
    (xN (kdBor S.2.2.1 w v) (S.2.2.1 (15 + w.toNatClampNeg)) (if kdBor S.2.2.1 w v = 0 then sNow (sPush S) (upR S.2.2.1 (15 + w.toNatClampNeg) v) else S) m x n K G M L) xF := by
  have hm := h
  obtain ⟨h0, -, -, -, -, g6, h3, -⟩ := h
  have r0 : M (m + 3) = S.2.2.1 := hc.2.2.1
  refine Con.mk 4 mp_X6_setBorder rfl (ls := [some (.ref m), some (.int w), some (.int v), none, none, none, none]) rfl (Nat.le_of_ble_eq_true rfl) ?_
  by_cases c : w < 1 ∨ 7 < w
  · have kd : kdBor S.2.2.1 w v = 1 := if_pos c
    rw [if_neg (by omega)]
    refine V_ild1 dX6_setBorder_0 ?_
    refine V_i2l dX6_setBorder_1 ?_
    refine V_lconst (v := 1) dX6_setBorder_2 (by decide) ?_
    refine V_ldc2 dX6_setBorder_3 mk_X6_141 ?_
    refine V_cs3R lk_X6_86 cc_X6_in dX6_setBorder_6 (c_X6_inI w 1 7) ft_X6_setBorder_X6_in rfl rfl (Nat.le_of_ble_eq_true rfl) ?_
    refine V_ist3 dX6_setBorder_9 rfl (by decide) ?_
    refine V_ild2 dX6_setBorder_10 ?_
    refine V_i2l dX6_setBorder_11 ?_
    refine V_lconst (v := 1) dX6_setBorder_12 (by decide) ?_
    refine V_ldc2 dX6_setBorder_13 mk_X6_192 ?_
    refine V_cs3R lk_X6_86 cc_X6_in dX6_setBorder_16 (c_X6_inI v 1 5000) ft_X6_setBorder_X6_in rfl rfl (Nat.le_of_ble_eq_true rfl) ?_
    refine V_ist4 dX6_setBorder_19 rfl (by decide) ?_
    refine V_ild3 dX6_setBorder_21 ?_
    refine V_if_eq (tgt := 68) dX6_setBorder_22 (by decide) (fun h22 => ?_) (fun h22 => ?_)
    · refine V_iconst (v := 0) dX6_setBorder_68 (by decide) ?_
      refine V_ist5 dX6_setBorder_69 rfl (by decide) ?_
      refine V_ald0 dX6_setBorder_71 ?_
      refine V_ild3 dX6_setBorder_72 ?_
      refine V_if_ne (tgt := 80) dX6_setBorder_73 (by decide) (fun h73 => ?_) (fun h73 => ?_)
      · exact absurd (bIf (not_not_intro c)) h73
      · refine V_iconst (v := 1) dX6_setBorder_76 (by decide) ?_
        refine V_goto (tgt := 99) dX6_setBorder_77 (by decide) ?_
        refine V_cv1R lk_X6_93 cc_X6_refused dX6_setBorder_99 (by assumption) (c_X6_refused h0 1) ft_X6_setBorder_X6_refused rfl rfl (Nat.le_of_ble_eq_true rfl) ?_
        refine V_if_eq (tgt := 107) dX6_setBorder_102 (by decide) (fun h102 => ?_) (fun h102 => ?_)
        · exact absurd h102 (by decide)
        · refine V_iconst (v := 0) dX6_setBorder_105 (by decide) ?_
          exact V_iret rfl dX6_setBorder_106 (by decide) (by decide) (xN_b hc kd _)
    · exact absurd (bIf (not_not_intro c)) h22
  · have c' := c
    rw [not_or] at c'
    obtain ⟨j, j1, j7, ej⟩ := xIdx1 (N := 7) (by decide) c'.1 c'.2
    have e1 : w.toNatClampNeg = j := by rw [ej, nI_clamp (by omega)]
    have z1 : w = 1 ↔ j = 1 := by rw [ej]; exact nI_eq (b := 1) (by omega) (by decide)
    have z7 : w = 7 ↔ j = 7 := by rw [ej]; exact nI_eq (b := 7) (by omega) (by decide)
    have i15 : (16 : Int32) + w - 1 = nI (15 + j) := by rw [ej, show (16 : Int32) + nI j = nI (16 + j) from nI_add 16 j, show nI (16 + j) - 1 = nI (16 + j - 1) from pkSub (b := 1) (by omega)]; congr 1; omega
    have i16 : (16 : Int32) + w = nI (16 + j) := by rw [ej]; exact nI_add 16 j
    have i14 : (16 : Int32) + w - 2 = nI (14 + j) := by rw [ej, show (16 : Int32) + nI j = nI (16 + j) from nI_add 16 j, show nI (16 + j) - 2 = nI (16 + j - 2) from pkSub (b := 2) (by omega)]; congr 1; omega
    have go : ∀ y : Int32, (y = 0 ∨ y = 1) → (y = 1 ↔ ((j = 1 ∨ S.2.2.1 (14 + j) < v) ∧ (j = 7 ∨ v < S.2.2.1 (16 + j)))) → V E l Y_X6_setBorder (xQm E Y_X6_setBorder (xN (kdBor S.2.2.1 w v) (S.2.2.1 (15 + w.toNatClampNeg)) (if kdBor S.2.2.1 w v = 0 then sNow (sPush S) (upR S.2.2.1 (15 + w.toNatClampNeg) v) else S) m x n K G M L) xF) (x, n, K, G, M, L) (0, 0) 69
        [some (.ref m), some (.int w), some (.int v), some (.int (bI (¬ (w < 1 ∨ 7 < w)))), some (.int (bI (¬ (v < 1 ∨ 5000 < v)))), none, none] [.int y] := by
      intro y y01 hy
      by_cases d : v < 1 ∨ 5000 < v
      · have kd : kdBor S.2.2.1 w v = 2 := by unfold kdBor; rw [if_neg c, if_pos d]
        rw [if_neg (by omega)]
        refine V_ist5 dX6_setBorder_69 rfl (by decide) ?_
        refine V_ald0 dX6_setBorder_71 ?_
        refine V_ild3 dX6_setBorder_72 ?_
        refine V_if_ne (tgt := 80) dX6_setBorder_73 (by decide) (fun h73 => ?_) (fun h73 => ?_)
        · refine V_ild4 dX6_setBorder_80 ?_
          refine V_if_ne (tgt := 89) dX6_setBorder_82 (by decide) (fun h82 => ?_) (fun h82 => ?_)
          · exact absurd (bIf (not_not_intro d)) h82
          · refine V_iconst (v := 2) dX6_setBorder_85 (by decide) ?_
            refine V_goto (tgt := 99) dX6_setBorder_86 (by decide) ?_
            refine V_cv1R lk_X6_93 cc_X6_refused dX6_setBorder_99 (by assumption) (c_X6_refused h0 2) ft_X6_setBorder_X6_refused rfl rfl (Nat.le_of_ble_eq_true rfl) ?_
            refine V_if_eq (tgt := 107) dX6_setBorder_102 (by decide) (fun h102 => ?_) (fun h102 => ?_)
            · exact absurd h102 (by decide)
            · refine V_iconst (v := 0) dX6_setBorder_105 (by decide) ?_
              exact V_iret rfl dX6_setBorder_106 (by decide) (by decide) (xN_b2 hc kd _)
        · exact absurd (bIt c) (by rw [h73]; decide)
      · by_cases f : y = 1
        · have kd : kdBor S.2.2.1 w v = 0 := by unfold kdBor; rw [if_neg c, if_neg d, e1, if_pos (hy.mp f)]
          rw [if_pos kd, e1]
          refine V_ist5 dX6_setBorder_69 rfl (by decide) ?_
          refine V_ald0 dX6_setBorder_71 ?_
          refine V_ild3 dX6_setBorder_72 ?_
          refine V_if_ne (tgt := 80) dX6_setBorder_73 (by decide) (fun h73 => ?_) (fun h73 => ?_)
          · refine V_ild4 dX6_setBorder_80 ?_
            refine V_if_ne (tgt := 89) dX6_setBorder_82 (by decide) (fun h82 => ?_) (fun h82 => ?_)
            · refine V_ild5 dX6_setBorder_89 ?_
              refine V_if_eq (tgt := 98) dX6_setBorder_91 (by decide) (fun h91 => ?_) (fun h91 => ?_)
              · exact absurd (f.symm.trans h91) (by decide)
              · refine V_iconst (v := 0) dX6_setBorder_94 (by decide) ?_
                refine V_goto (tgt := 99) dX6_setBorder_95 (by decide) ?_
                refine V_cv1R lk_X6_93 cc_X6_refused dX6_setBorder_99 (by assumption) (c_X6_refused h0 0) ft_X6_setBorder_X6_refused rfl rfl (Nat.le_of_ble_eq_true rfl) ?_
                refine V_if_eq (tgt := 107) dX6_setBorder_102 (by decide) (fun h102 => ?_) (fun h102 => ?_)
                · refine V_ald0 dX6_setBorder_107 ?_
                  refine V_cv0P lk_X6_180 cc_X6_note dX6_setBorder_108 (by assumption) (c_X6_note hm (hc.ref 0)) ft_X6_setBorder_X6_note (Nat.le_of_ble_eq_true rfl) (fun o9 q9 hq9 => ?_)
                  obtain ⟨rfl, M1, rfl, m1, m2, m3⟩ := hq9
                  have r1 : M1 (m + 3) = S.2.2.1 := m1.2.2.1
                  show V E l _ _ _ (0, 0) 111 _ []
                  refine V_ald0 dX6_setBorder_111 ?_
                  refine V_getR fd_X6_16 dX6_setBorder_112 (by assumption) (by assumption) rfl ?_
                  refine V_bipush (v := 16) dX6_setBorder_115 (by decide) ?_
                  refine V_ild1 dX6_setBorder_117 ?_
                  refine V_iadd dX6_setBorder_118 ?_
                  refine V_iconst (v := 1) dX6_setBorder_119 (by decide) ?_
                  refine V_isub dX6_setBorder_120 ?_
                  refine V_iald (j := 15 + j) dX6_setBorder_121 (by assumption) i15 (by omega) ?_
                  refine V_ist6 dX6_setBorder_122 rfl (by decide) ?_
                  refine V_ald0 dX6_setBorder_124 ?_
                  refine V_getR fd_X6_16 dX6_setBorder_125 (by assumption) (by assumption) rfl ?_
                  refine V_bipush (v := 16) dX6_setBorder_128 (by decide) ?_
                  refine V_ild1 dX6_setBorder_130 ?_
                  refine V_iadd dX6_setBorder_131 ?_
                  refine V_iconst (v := 1) dX6_setBorder_132 (by decide) ?_
                  refine V_isub dX6_setBorder_133 ?_
                  refine V_ild2 dX6_setBorder_134 ?_
                  refine V_iast (j := 15 + j) dX6_setBorder_135 (by assumption) i15 (by omega) ?_
                  refine V_ild6 dX6_setBorder_136 ?_
                  exact V_iret rfl dX6_setBorder_138 (by decide) (by decide) ⟨_, _, rfl, fun _ => by rw [r1], rfl, by rw [xup_r]; exact m1.nowR (fun k q => xro_n q) (by rw [xro_s, r1]) (m1.2.2.2.1.1.up (by omega) v), by rw [xup_k (by omega), m2, xup_s, kd]; rfl, (Fm.up (by omega)).trans (m3.trans (Fm.up (by omega)))⟩
                · exact absurd (by decide) h102
            · exact absurd (bIt d) (by rw [h82]; decide)
          · exact absurd (bIt c) (by rw [h73]; decide)
        · have kd : kdBor S.2.2.1 w v = 3 := by unfold kdBor; rw [if_neg c, if_neg d, e1, if_neg (fun q => f (hy.mpr q))]
          rw [if_neg (by omega)]
          refine V_ist5 dX6_setBorder_69 rfl (by decide) ?_
          refine V_ald0 dX6_setBorder_71 ?_
          refine V_ild3 dX6_setBorder_72 ?_
          refine V_if_ne (tgt := 80) dX6_setBorder_73 (by decide) (fun h73 => ?_) (fun h73 => ?_)
          · refine V_ild4 dX6_setBorder_80 ?_
            refine V_if_ne (tgt := 89) dX6_setBorder_82 (by decide) (fun h82 => ?_) (fun h82 => ?_)
            · refine V_ild5 dX6_setBorder_89 ?_
              refine V_if_eq (tgt := 98) dX6_setBorder_91 (by decide) (fun h91 => ?_) (fun h91 => ?_)
              · refine V_iconst (v := 3) dX6_setBorder_98 (by decide) ?_
                refine V_cv1R lk_X6_93 cc_X6_refused dX6_setBorder_99 (by assumption) (c_X6_refused h0 3) ft_X6_setBorder_X6_refused rfl rfl (Nat.le_of_ble_eq_true rfl) ?_
                refine V_if_eq (tgt := 107) dX6_setBorder_102 (by decide) (fun h102 => ?_) (fun h102 => ?_)
                · exact absurd h102 (by decide)
                · refine V_iconst (v := 0) dX6_setBorder_105 (by decide) ?_
                  exact V_iret rfl dX6_setBorder_106 (by decide) (by decide) ⟨_, _, rfl, fun q => by omega, rfl, hc.ref 3, by rw [xup_s, kd]; rfl, Fm.up (by omega)⟩
              · exact absurd (y01.resolve_right f) h91
            · exact absurd (bIt d) (by rw [h82]; decide)
          · exact absurd (bIt c) (by rw [h73]; decide)
    refine V_ild1 dX6_setBorder_0 ?_
    refine V_i2l dX6_setBorder_1 ?_
    refine V_lconst (v := 1) dX6_setBorder_2 (by decide) ?_
    refine V_ldc2 dX6_setBorder_3 mk_X6_141 ?_
    refine V_cs3R lk_X6_86 cc_X6_in dX6_setBorder_6 (c_X6_inI w 1 7) ft_X6_setBorder_X6_in rfl rfl (Nat.le_of_ble_eq_true rfl) ?_
    refine V_ist3 dX6_setBorder_9 rfl (by decide) ?_
    refine V_ild2 dX6_setBorder_10 ?_
    refine V_i2l dX6_setBorder_11 ?_
    refine V_lconst (v := 1) dX6_setBorder_12 (by decide) ?_
    refine V_ldc2 dX6_setBorder_13 mk_X6_192 ?_
    refine V_cs3R lk_X6_86 cc_X6_in dX6_setBorder_16 (c_X6_inI v 1 5000) ft_X6_setBorder_X6_in rfl rfl (Nat.le_of_ble_eq_true rfl) ?_
    refine V_ist4 dX6_setBorder_19 rfl (by decide) ?_
    refine V_ild3 dX6_setBorder_21 ?_
    refine V_if_eq (tgt := 68) dX6_setBorder_22 (by decide) (fun h22 => ?_) (fun h22 => ?_)
    · exact absurd (bIt c) (by rw [h22]; decide)
    · refine V_ild1 dX6_setBorder_25 ?_
      refine V_iconst (v := 1) dX6_setBorder_26 (by decide) ?_
      refine V_icmp_eq (tgt := 45) dX6_setBorder_27 (by decide) (fun h27 => ?_) (fun h27 => ?_)
      · have p1 : j = 1 ∨ S.2.2.1 (14 + j) < v := by
          first
          | exact Or.inl (z1.mp h27)
          | exact Or.inr (by rw [← r0]; exact h42)
        refine V_ild1 dX6_setBorder_45 ?_
        refine V_bipush (v := 7) dX6_setBorder_46 (by decide) ?_
        refine V_icmp_eq (tgt := 64) dX6_setBorder_48 (by decide) (fun h48 => ?_) (fun h48 => ?_)
        · have p2 : j = 7 ∨ v < S.2.2.1 (16 + j) := by
            first
            | exact Or.inl (z7.mp h48)
            | exact Or.inr (by rw [← r0]; exact h61)
          refine V_iconst (v := 1) dX6_setBorder_64 (by decide) ?_
          refine V_goto (tgt := 69) dX6_setBorder_65 (by decide) ?_
          first
          | exact go 1 (Or.inr rfl) ⟨fun _ => ⟨p1, p2⟩, fun _ => rfl⟩
          | exact go 0 (Or.inl rfl) ⟨fun q => absurd q (by decide), fun q => absurd (q.1.resolve_left (fun z => h27 (z1.mpr z))) (by rw [← r0]; exact h42)⟩
          | exact go 0 (Or.inl rfl) ⟨fun q => absurd q (by decide), fun q => absurd (q.2.resolve_left (fun z => h48 (z7.mpr z))) (by rw [← r0]; exact h61)⟩
        · refine V_ild2 dX6_setBorder_51 ?_
          refine V_ald0 dX6_setBorder_52 ?_
          refine V_getR fd_X6_16 dX6_setBorder_53 (by assumption) (by assumption) rfl ?_
          refine V_bipush (v := 16) dX6_setBorder_56 (by decide) ?_
          refine V_ild1 dX6_setBorder_58 ?_
          refine V_iadd dX6_setBorder_59 ?_
          refine V_iald (j := 16 + j) dX6_setBorder_60 (by assumption) i16 (by omega) ?_
          refine V_icmp_ge (tgt := 68) dX6_setBorder_61 (by decide) (fun h61 => ?_) (fun h61 => ?_)
          · refine V_iconst (v := 0) dX6_setBorder_68 (by decide) ?_
            first
            | exact go 1 (Or.inr rfl) ⟨fun _ => ⟨p1, p2⟩, fun _ => rfl⟩
            | exact go 0 (Or.inl rfl) ⟨fun q => absurd q (by decide), fun q => absurd (q.1.resolve_left (fun z => h27 (z1.mpr z))) (by rw [← r0]; exact h42)⟩
            | exact go 0 (Or.inl rfl) ⟨fun q => absurd q (by decide), fun q => absurd (q.2.resolve_left (fun z => h48 (z7.mpr z))) (by rw [← r0]; exact h61)⟩
          · have p2 : j = 7 ∨ v < S.2.2.1 (16 + j) := by
              first
              | exact Or.inl (z7.mp h48)
              | exact Or.inr (by rw [← r0]; exact h61)
            refine V_iconst (v := 1) dX6_setBorder_64 (by decide) ?_
            refine V_goto (tgt := 69) dX6_setBorder_65 (by decide) ?_
            first
            | exact go 1 (Or.inr rfl) ⟨fun _ => ⟨p1, p2⟩, fun _ => rfl⟩
            | exact go 0 (Or.inl rfl) ⟨fun q => absurd q (by decide), fun q => absurd (q.1.resolve_left (fun z => h27 (z1.mpr z))) (by rw [← r0]; exact h42)⟩
            | exact go 0 (Or.inl rfl) ⟨fun q => absurd q (by decide), fun q => absurd (q.2.resolve_left (fun z => h48 (z7.mpr z))) (by rw [← r0]; exact h61)⟩
      · refine V_ild2 dX6_setBorder_30 ?_
        refine V_ald0 dX6_setBorder_31 ?_
        refine V_getR fd_X6_16 dX6_setBorder_32 (by assumption) (by assumption) rfl ?_
        refine V_bipush (v := 16) dX6_setBorder_35 (by decide) ?_
        refine V_ild1 dX6_setBorder_37 ?_
        refine V_iadd dX6_setBorder_38 ?_
        refine V_iconst (v := 2) dX6_setBorder_39 (by decide) ?_
        refine V_isub dX6_setBorder_40 ?_
        refine V_iald (j := 14 + j) dX6_setBorder_41 (by assumption) i14 (by omega) ?_
        refine V_icmp_le (tgt := 68) dX6_setBorder_42 (by decide) (fun h42 => ?_) (fun h42 => ?_)
        · refine V_iconst (v := 0) dX6_setBorder_68 (by decide) ?_
          first
          | exact go 1 (Or.inr rfl) ⟨fun _ => ⟨p1, p2⟩, fun _ => rfl⟩
          | exact go 0 (Or.inl rfl) ⟨fun q => absurd q (by decide), fun q => absurd (q.1.resolve_left (fun z => h27 (z1.mpr z))) (by rw [← r0]; exact h42)⟩
          | exact go 0 (Or.inl rfl) ⟨fun q => absurd q (by decide), fun q => absurd (q.2.resolve_left (fun z => h48 (z7.mpr z))) (by rw [← r0]; exact h61)⟩
        · have p1 : j = 1 ∨ S.2.2.1 (14 + j) < v := by
            first
            | exact Or.inl (z1.mp h27)
            | exact Or.inr (by rw [← r0]; exact h42)
          refine V_ild1 dX6_setBorder_45 ?_
          refine V_bipush (v := 7) dX6_setBorder_46 (by decide) ?_
          refine V_icmp_eq (tgt := 64) dX6_setBorder_48 (by decide) (fun h48 => ?_) (fun h48 => ?_)
          · have p2 : j = 7 ∨ v < S.2.2.1 (16 + j) := by
              first
              | exact Or.inl (z7.mp h48)
              | exact Or.inr (by rw [← r0]; exact h61)
            refine V_iconst (v := 1) dX6_setBorder_64 (by decide) ?_
            refine V_goto (tgt := 69) dX6_setBorder_65 (by decide) ?_
            first
            | exact go 1 (Or.inr rfl) ⟨fun _ => ⟨p1, p2⟩, fun _ => rfl⟩
            | exact go 0 (Or.inl rfl) ⟨fun q => absurd q (by decide), fun q => absurd (q.1.resolve_left (fun z => h27 (z1.mpr z))) (by rw [← r0]; exact h42)⟩
            | exact go 0 (Or.inl rfl) ⟨fun q => absurd q (by decide), fun q => absurd (q.2.resolve_left (fun z => h48 (z7.mpr z))) (by rw [← r0]; exact h61)⟩
          · refine V_ild2 dX6_setBorder_51 ?_
            refine V_ald0 dX6_setBorder_52 ?_
            refine V_getR fd_X6_16 dX6_setBorder_53 (by assumption) (by assumption) rfl ?_
            refine V_bipush (v := 16) dX6_setBorder_56 (by decide) ?_
            refine V_ild1 dX6_setBorder_58 ?_
            refine V_iadd dX6_setBorder_59 ?_
            refine V_iald (j := 16 + j) dX6_setBorder_60 (by assumption) i16 (by omega) ?_
            refine V_icmp_ge (tgt := 68) dX6_setBorder_61 (by decide) (fun h61 => ?_) (fun h61 => ?_)
            · refine V_iconst (v := 0) dX6_setBorder_68 (by decide) ?_
              first
              | exact go 1 (Or.inr rfl) ⟨fun _ => ⟨p1, p2⟩, fun _ => rfl⟩
              | exact go 0 (Or.inl rfl) ⟨fun q => absurd q (by decide), fun q => absurd (q.1.resolve_left (fun z => h27 (z1.mpr z))) (by rw [← r0]; exact h42)⟩
              | exact go 0 (Or.inl rfl) ⟨fun q => absurd q (by decide), fun q => absurd (q.2.resolve_left (fun z => h48 (z7.mpr z))) (by rw [← r0]; exact h61)⟩
            · have p2 : j = 7 ∨ v < S.2.2.1 (16 + j) := by
                first
                | exact Or.inl (z7.mp h48)
                | exact Or.inr (by rw [← r0]; exact h61)
              refine V_iconst (v := 1) dX6_setBorder_64 (by decide) ?_
              refine V_goto (tgt := 69) dX6_setBorder_65 (by decide) ?_
              first
              | exact go 1 (Or.inr rfl) ⟨fun _ => ⟨p1, p2⟩, fun _ => rfl⟩
              | exact go 0 (Or.inl rfl) ⟨fun q => absurd q (by decide), fun q => absurd (q.1.resolve_left (fun z => h27 (z1.mpr z))) (by rw [← r0]; exact h42)⟩
              | exact go 0 (Or.inl rfl) ⟨fun q => absurd q (by decide), fun q => absurd (q.2.resolve_left (fun z => h48 (z7.mpr z))) (by rw [← r0]; exact h61)⟩
end C60

/-! ===== the reference: a part of the text, the text ===== -/
section P69
variable {M M' : xMem} {L : xLng} {m a p q k i : Nat} {R : xRow} {g : Nat → Int32} {T B : Nat}
theorem xup_sm : xup M k i (M k i) = M := by
  funext y z; unfold xup
  by_cases e : y = k ∧ z = i
  · rw [if_pos e, e.1, e.2]
  · rw [if_neg e]
theorem kPd (ha : a < 800) (c : g a = 100) :
    (kErrP g a = -9 ∧ rTw g (true, a + 1) 0 99 = (true, a + 3) ∧ rTv g (true, a + 1) 0 99 = rNum g (a + 1) ∧ rTw g (true, a + 3) 1 60 = (true, a + 5) ∧ rTv g (true, a + 3) 1 60 = rNum g (a + 3)) ∨
    ∃ e, e < 1000 ∧ kErrP g a = nI e ∧ (rTw g (true, a + 1) 0 99).2 < 900 ∧ rTw g (rTw g (true, a + 1) 0 99) 1 60 = (false, e) := by
  have kp : kErrP g a = kErrD g (a + 1) := by unfold kErrP; rw [if_pos c]
  rw [kp]
  unfold kErrD
  rcases kTw (g := g) (p := a + 1) (lo := 0) (hi := 99) (by omega) (by decide) (by decide) with ⟨q1, q2, q3⟩ | ⟨e, e1, q1, q2⟩
  · have q1' : kErrN g (a + 1) 2 0 99 = -9 := q1
    have q2' : rTw g (true, a + 1) 0 99 = (true, a + 3) := q2
    rw [if_pos q1']
    rcases kTw (g := g) (p := a + 3) (lo := 1) (hi := 60) (by omega) (by decide) (by decide) with ⟨r1, r2, r3⟩ | ⟨e, e1, r1, r2⟩
    · exact Or.inl ⟨r1, q2, q3, r2, r3⟩
    · refine Or.inr ⟨e, e1, r1, ?_, ?_⟩
      · rw [q2']; show a + 3 < 900; omega
      · rw [q2']; exact r2
  · have q1' : kErrN g (a + 1) 2 0 99 = nI e := q1
    have q2' : rTw g (true, a + 1) 0 99 = (false, e) := q2
    rw [q1', if_neg (nI_m9 (by omega))]
    have le : e ≤ a + 3 := by
      have h2 : (rTw g (true, a + 1) 0 99).2 ≤ a + 3 := by
        unfold rTw rDg
        dsimp only
        split <;> split <;> omega
      rw [q2'] at h2; exact h2
    refine Or.inr ⟨e, e1, rfl, ?_, ?_⟩
    · rw [q2']; show e < 900; omega
    · rw [q2', rTw_f]
theorem kErrGo_n {lo hi : Int32} : ∀ (r i : Nat) (f : Int32), kErrGo g a lo hi r i f = -9 ∨ ∃ e, i ≤ e ∧ e < i + r ∧ kErrGo g a lo hi r i f = nI (a + e)
  | 0, i, f => Or.inl rfl
  | r + 1, i, f => by
    rw [kErrGo]
    generalize (if r = 0 then (1 : Int32) else 10) = sp
    by_cases c1 : g (a + i) - 48 < 0 ∨ 9 < g (a + i) - 48
    · rw [if_pos c1]; exact Or.inr ⟨i, Nat.le_refl _, by omega, rfl⟩
    rw [if_neg c1]
    by_cases c2 : hi < f + (g (a + i) - 48) * sp ∨ f + (g (a + i) - 48) * sp + sp - 1 < lo
    · rw [if_pos c2]; exact Or.inr ⟨i, Nat.le_refl _, by omega, rfl⟩
    · rw [if_neg c2]
      rcases kErrGo_n (lo := lo) (hi := hi) r (i + 1) (f + (g (a + i) - 48) * sp) with q | ⟨e, e1, e2, e3⟩
      · exact Or.inl q
      · exact Or.inr ⟨e, by omega, by omega, e3⟩
theorem kErrN_n {lo hi : Int32} {r : Nat} (h : ¬ kErrN g a r lo hi = -9) : ∃ e, e < a + r ∧ kErrN g a r lo hi = nI e := by
  rcases kErrGo_n (g := g) (a := a) (lo := lo) (hi := hi) r 0 0 with q | ⟨e, -, e2, e3⟩
  · exact absurd q h
  · exact ⟨a + e, by omega, e3⟩
theorem kErrP_n (ha : a < 800) (h : ¬ kErrP g a = -9) : ∃ e, e < 1000 ∧ kErrP g a = nI e := by
  by_cases c1 : g a = 100
  · have kp : kErrP g a = kErrD g (a + 1) := by unfold kErrP; rw [if_pos c1]
    rw [kp] at h ⊢
    unfold kErrD at h ⊢
    by_cases q : kErrN g (a + 1) 2 0 99 = -9
    · rw [if_pos q] at h ⊢; obtain ⟨e, e1, e2⟩ := kErrN_n h; exact ⟨e, by omega, e2⟩
    · rw [if_neg q] at h ⊢; obtain ⟨e, e1, e2⟩ := kErrN_n h; exact ⟨e, by omega, e2⟩
  by_cases c2 : g a = 103
  · have kp : kErrP g a = kErrN g (a + 1) 1 1 9 := by unfold kErrP; rw [if_neg c1, if_pos c2]
    rw [kp] at h ⊢; obtain ⟨e, e1, e2⟩ := kErrN_n h; exact ⟨e, by omega, e2⟩
  by_cases c3 : g a = 112
  · have kp : kErrP g a = kErrN g (a + 1) 2 1 99 := by unfold kErrP; rw [if_neg c1, if_neg c2, if_pos c3]
    rw [kp] at h ⊢; obtain ⟨e, e1, e2⟩ := kErrN_n h; exact ⟨e, by omega, e2⟩
  by_cases c4 : g a = 116
  · have kp : kErrP g a = kErrN g (a + 1) 2 0 40 := by unfold kErrP; rw [if_neg c1, if_neg c2, if_neg c3, if_pos c4]
    rw [kp] at h ⊢; obtain ⟨e, e1, e2⟩ := kErrN_n h; exact ⟨e, by omega, e2⟩
  by_cases c5 : g a = 119
  · have kp : kErrP g a = kErrN g (a + 1) 2 0 20 := by unfold kErrP; rw [if_neg c1, if_neg c2, if_neg c3, if_neg c4, if_pos c5]
    rw [kp] at h ⊢; obtain ⟨e, e1, e2⟩ := kErrN_n h; exact ⟨e, by omega, e2⟩
  · exact ⟨a, by omega, by unfold kErrP; rw [if_neg c1, if_neg c2, if_neg c3, if_neg c4, if_neg c5]⟩
theorem Sh.part (h : Sh R) (hw : WFr R T B) : Sh (rPart g a R) := by
  unfold rPart
  split
  · exact h.dr hw _ _
  split
  · exact h.up (by decide) _
  split
  · exact h.go _
  split
  · exact h.up (by decide) _
  split
  · exact h.up (by decide) _
  · exact h
end P69
section C69
variable {E : xEnv} {l : Launch} {x : Bool} {n : Nat} {K : xKnd} {G : xRef} {M : xMem} {L : xLng} {a m p len T B : Nat} {S : xSp}
theorem c_X6_readPart (h : rM n K G m) (h3 : M m 3 = nI a) (h4 : M m 4 = 1) (h2 : M m 2 = nI len) (hl : len ≤ 100) (ha : a < len) (hw : WFr (M (m + 2)) T B) : Con E l Y_X6_readPart [.ref m] (x, n, K, G, M, L)
    (xR none (x, n, K, G, if kErrP (kSg (M (m + 1)) len) a = -9 then xro (xSpt M m true (a + kPaL (kSg (M (m + 1)) len) a)) (m + 2) (rPart (kSg (M (m + 1)) len) a (M (m + 2))) else xSpt M m false (kErrP (kSg (M (m + 1)) len) a).toNatClampNeg, L)) xF := by
  have hm := h
  obtain ⟨h0, g1, h1, g5, hr, -⟩ := h
  have el : M (m + 1) a = kSg (M (m + 1)) len a := (if_pos ha).symm
  have o1 : ∀ (b : Bool) p, xSpt M m b p (m + 1) = M (m + 1) := fun b p => xSpt_o (by omega)
  have o2 : ∀ (b : Bool) p, xSpt M m b p (m + 2) = M (m + 2) := fun b p => xSpt_o (by omega)
  have s2 : ∀ (b : Bool) p, xSpt M m b p m 2 = nI len := fun b p => by rw [xSpt_i (by decide) (by decide)]; exact h2
  have ka : Con E l Y_X6_accept [.ref m, .int 1] (x, n, K, G, M, L) (xR none (x, n, K, G, xSpt M m true (a + 1), L)) xF := c_X6_accept h0 h3 (show M m 4 = bB true from h4) true
  have kn : Con E l Y_X6_accept [.ref m, .int 0] (x, n, K, G, M, L) (xR none (x, n, K, G, xSpt M m false a, L)) xF := c_X6_accept h0 h3 (show M m 4 = bB true from h4) false
  have kd : Con E l Y_X6_digit [.ref m, .int 1, .int 9] (x, n, K, G, xSpt M m true (a + 1), L) (xR (some (.int (rDv (kSg (M (m + 1)) len) (true, a + 1) 1 9))) (x, n, K, G, xSpt M m (rDg (kSg (M (m + 1)) len) (true, a + 1) 1 9).1 (rDg (kSg (M (m + 1)) len) (true, a + 1) 1 9).2, L)) xF := by
    have := c_X6_digit (E := E) (l := l) (x := x) (L := L) (M := xSpt M m true (a + 1)) (p := a + 1) (b := true) hm xSpt_3 xSpt_4 (s2 _ _) hl (by omega) 1 9
    rw [o1, xSpt_t] at this; exact this
  have kt : ∀ (s : Bool × Nat) lo hi, s.2 < 900 → Con E l Y_X6_two [.ref m, .int lo, .int hi] (x, n, K, G, xSpt M m s.1 s.2, L) (xR (some (.int (rTv (kSg (M (m + 1)) len) s lo hi))) (x, n, K, G, xSpt M m (rTw (kSg (M (m + 1)) len) s lo hi).1 (rTw (kSg (M (m + 1)) len) s lo hi).2, L)) xF := by
    intro s lo hi hs
    have := c_X6_two (E := E) (l := l) (x := x) (L := L) (M := xSpt M m s.1 s.2) (p := s.2) (b := s.1) hm xSpt_3 xSpt_4 (s2 _ _) hl hs lo hi
    rw [o1, xSpt_t] at this; exact this
  generalize kSg (M (m + 1)) len = g at *
  refine Con.mk 3 mp_X6_readPart rfl (ls := [some (.ref m), none, none, none]) rfl (Nat.le_of_ble_eq_true rfl) ?_
  by_cases c : g a = 100
  · have kl : kPaL g a = 5 := by unfold kPaL; rw [if_pos c]
    rcases kPd (g := g) (a := a) (by omega) c with ⟨k9, q1, v1, q2, v2⟩ | ⟨e, e9, k9, q1, q2⟩
    · rw [if_pos k9, kl, rPart_d c]
      have k1 : Con E l Y_X6_two [.ref m, .int 0, .int 99] (x, n, K, G, xSpt M m true (a + 1), L) (xR (some (.int (rNum g (a + 1)))) (x, n, K, G, xSpt M m true (a + 3), L)) xF := by
        have := kt (true, a + 1) 0 99 (by show a + 1 < 900; omega); rw [q1, v1] at this; exact this
      have k2 : Con E l Y_X6_two [.ref m, .int 1, .int 60] (x, n, K, G, xSpt M m true (a + 3), L) (xR (some (.int (rNum g (a + 3)))) (x, n, K, G, xSpt M m true (a + 5), L)) xF := by
        have := kt (true, a + 3) 1 60 (by show a + 3 < 900; omega); rw [q2, v2] at this; exact this
      refine V_ald0 dX6_readPart_0 ?_
      refine V_getR fd_X6_7 dX6_readPart_1 (by assumption) (by assumption) rfl ?_
      refine V_ald0 dX6_readPart_4 ?_
      refine V_getI fd_X6_97 dX6_readPart_5 (by assumption) rfl ?_
      refine V_iald (j := a) dX6_readPart_8 (by assumption) h3 (by omega) ?_
      rw [el, c]
      refine V_ist1 dX6_readPart_9 rfl (by decide) ?_
      refine V_ald0 dX6_readPart_10 ?_
      refine V_ild1 dX6_readPart_11 ?_
      refine V_bipush (v := 100) dX6_readPart_12 (by decide) ?_
      refine V_icmp_eq (tgt := 41) dX6_readPart_14 (by decide) (fun h14 => ?_) (fun h14 => ?_)
      · refine V_iconst (v := 1) dX6_readPart_41 (by decide) ?_
        refine V_goto (tgt := 46) dX6_readPart_42 (by decide) ?_
        refine V_cv1U lk_X6_106 cc_X6_accept dX6_readPart_46 (by assumption) (ka) ft_X6_readPart_X6_accept rfl rfl (Nat.le_of_ble_eq_true rfl) ?_
        refine V_ald0 dX6_readPart_49 ?_
        refine V_getI fd_X6_100 dX6_readPart_50 (by assumption) rfl ?_
        rw [xSpt_4]
        refine V_if_ne (tgt := 57) dX6_readPart_53 (by decide) (fun h53 => ?_) (fun h53 => ?_)
        · refine V_ild1 dX6_readPart_57 ?_
          refine V_bipush (v := 103) dX6_readPart_58 (by decide) ?_
          refine V_icmp_ne (tgt := 95) dX6_readPart_60 (by decide) (fun h60 => ?_) (fun h60 => ?_)
          · refine V_ald0 dX6_readPart_95 ?_
            refine V_ild1 dX6_readPart_96 ?_
            refine V_bipush (v := 112) dX6_readPart_97 (by decide) ?_
            refine V_icmp_ne (tgt := 106) dX6_readPart_99 (by decide) (fun h99 => ?_) (fun h99 => ?_)
            · refine V_iconst (v := 0) dX6_readPart_106 (by decide) ?_
              refine V_ild1 dX6_readPart_107 ?_
              refine V_bipush (v := 116) dX6_readPart_108 (by decide) ?_
              refine V_icmp_ne (tgt := 118) dX6_readPart_110 (by decide) (fun h110 => ?_) (fun h110 => ?_)
              · refine V_ild1 dX6_readPart_118 ?_
                refine V_bipush (v := 119) dX6_readPart_119 (by decide) ?_
                refine V_icmp_ne (tgt := 129) dX6_readPart_121 (by decide) (fun h121 => ?_) (fun h121 => ?_)
                · refine V_bipush (v := 99) dX6_readPart_129 (by decide) ?_
                  refine V_cv2R lk_X6_114 cc_X6_two dX6_readPart_131 (by assumption) (k1) ft_X6_readPart_X6_two rfl rfl (Nat.le_of_ble_eq_true rfl) ?_
                  refine V_ist2 dX6_readPart_134 rfl (by decide) ?_
                  refine V_ild1 dX6_readPart_135 ?_
                  refine V_bipush (v := 100) dX6_readPart_136 (by decide) ?_
                  refine V_icmp_ne (tgt := 151) dX6_readPart_138 (by decide) (fun h138 => ?_) (fun h138 => ?_)
                  · exact absurd rfl h138
                  · refine V_ald0 dX6_readPart_141 ?_
                    refine V_iconst (v := 1) dX6_readPart_142 (by decide) ?_
                    refine V_bipush (v := 60) dX6_readPart_143 (by decide) ?_
                    refine V_cv2R lk_X6_114 cc_X6_two dX6_readPart_145 (by assumption) (k2) ft_X6_readPart_X6_two rfl rfl (Nat.le_of_ble_eq_true rfl) ?_
                    refine V_goto (tgt := 152) dX6_readPart_148 (by decide) ?_
                    refine V_ist3 dX6_readPart_152 rfl (by decide) ?_
                    refine V_ald0 dX6_readPart_153 ?_
                    refine V_getI fd_X6_100 dX6_readPart_154 (by assumption) rfl ?_
                    rw [xSpt_4]
                    refine V_if_ne (tgt := 161) dX6_readPart_157 (by decide) (fun h157 => ?_) (fun h157 => ?_)
                    · refine V_ild1 dX6_readPart_161 ?_
                      refine V_bipush (v := 100) dX6_readPart_162 (by decide) ?_
                      refine V_icmp_ne (tgt := 180) dX6_readPart_164 (by decide) (fun h164 => ?_) (fun h164 => ?_)
                      · exact absurd rfl h164
                      · refine V_ald0 dX6_readPart_167 ?_
                        refine V_getR fd_X6_13 dX6_readPart_168 (by assumption) (by assumption) rfl ?_
                        refine V_ild2 dX6_readPart_171 ?_
                        refine V_ild3 dX6_readPart_172 ?_
                        refine V_cs3R lk_X6_117 cc_X6_goDrop dX6_readPart_173 (c_X6_goDrop hr (by rw [o2]; exact hw) _ _) ft_X6_readPart_X6_goDrop rfl rfl (Nat.le_of_ble_eq_true rfl) ?_
                        refine V_pop dX6_readPart_176 rfl ?_
                        refine V_goto (tgt := 216) dX6_readPart_177 (by decide) ?_
                        exact V_vret rfl dX6_readPart_216 (by decide) (by decide) ⟨rfl, by rw [o2]⟩
                    · exact absurd h157 (by decide)
                · exact absurd h121 (by decide)
              · exact absurd h110 (by decide)
            · exact absurd h99 (by decide)
          · exact absurd h60 (by decide)
        · exact absurd h53 (by decide)
      · exact absurd rfl h14
    · rw [if_neg (by rw [k9]; exact nI_m9 (by omega)), k9, nI_clamp (by omega)]
      have k1 := kt (true, a + 1) 0 99 (by show a + 1 < 900; omega)
      have k2 := kt (rTw g (true, a + 1) 0 99) 1 60 q1
      rw [q2] at k2
      refine V_ald0 dX6_readPart_0 ?_
      refine V_getR fd_X6_7 dX6_readPart_1 (by assumption) (by assumption) rfl ?_
      refine V_ald0 dX6_readPart_4 ?_
      refine V_getI fd_X6_97 dX6_readPart_5 (by assumption) rfl ?_
      refine V_iald (j := a) dX6_readPart_8 (by assumption) h3 (by omega) ?_
      rw [el, c]
      refine V_ist1 dX6_readPart_9 rfl (by decide) ?_
      refine V_ald0 dX6_readPart_10 ?_
      refine V_ild1 dX6_readPart_11 ?_
      refine V_bipush (v := 100) dX6_readPart_12 (by decide) ?_
      refine V_icmp_eq (tgt := 41) dX6_readPart_14 (by decide) (fun h14 => ?_) (fun h14 => ?_)
      · refine V_iconst (v := 1) dX6_readPart_41 (by decide) ?_
        refine V_goto (tgt := 46) dX6_readPart_42 (by decide) ?_
        refine V_cv1U lk_X6_106 cc_X6_accept dX6_readPart_46 (by assumption) (ka) ft_X6_readPart_X6_accept rfl rfl (Nat.le_of_ble_eq_true rfl) ?_
        refine V_ald0 dX6_readPart_49 ?_
        refine V_getI fd_X6_100 dX6_readPart_50 (by assumption) rfl ?_
        rw [xSpt_4]
        refine V_if_ne (tgt := 57) dX6_readPart_53 (by decide) (fun h53 => ?_) (fun h53 => ?_)
        · refine V_ild1 dX6_readPart_57 ?_
          refine V_bipush (v := 103) dX6_readPart_58 (by decide) ?_
          refine V_icmp_ne (tgt := 95) dX6_readPart_60 (by decide) (fun h60 => ?_) (fun h60 => ?_)
          · refine V_ald0 dX6_readPart_95 ?_
            refine V_ild1 dX6_readPart_96 ?_
            refine V_bipush (v := 112) dX6_readPart_97 (by decide) ?_
            refine V_icmp_ne (tgt := 106) dX6_readPart_99 (by decide) (fun h99 => ?_) (fun h99 => ?_)
            · refine V_iconst (v := 0) dX6_readPart_106 (by decide) ?_
              refine V_ild1 dX6_readPart_107 ?_
              refine V_bipush (v := 116) dX6_readPart_108 (by decide) ?_
              refine V_icmp_ne (tgt := 118) dX6_readPart_110 (by decide) (fun h110 => ?_) (fun h110 => ?_)
              · refine V_ild1 dX6_readPart_118 ?_
                refine V_bipush (v := 119) dX6_readPart_119 (by decide) ?_
                refine V_icmp_ne (tgt := 129) dX6_readPart_121 (by decide) (fun h121 => ?_) (fun h121 => ?_)
                · refine V_bipush (v := 99) dX6_readPart_129 (by decide) ?_
                  refine V_cv2R lk_X6_114 cc_X6_two dX6_readPart_131 (by assumption) (k1) ft_X6_readPart_X6_two rfl rfl (Nat.le_of_ble_eq_true rfl) ?_
                  refine V_ist2 dX6_readPart_134 rfl (by decide) ?_
                  refine V_ild1 dX6_readPart_135 ?_
                  refine V_bipush (v := 100) dX6_readPart_136 (by decide) ?_
                  refine V_icmp_ne (tgt := 151) dX6_readPart_138 (by decide) (fun h138 => ?_) (fun h138 => ?_)
                  · exact absurd rfl h138
                  · refine V_ald0 dX6_readPart_141 ?_
                    refine V_iconst (v := 1) dX6_readPart_142 (by decide) ?_
                    refine V_bipush (v := 60) dX6_readPart_143 (by decide) ?_
                    refine V_cv2R lk_X6_114 cc_X6_two dX6_readPart_145 (by assumption) (k2) ft_X6_readPart_X6_two rfl rfl (Nat.le_of_ble_eq_true rfl) ?_
                    refine V_goto (tgt := 152) dX6_readPart_148 (by decide) ?_
                    refine V_ist3 dX6_readPart_152 rfl (by decide) ?_
                    refine V_ald0 dX6_readPart_153 ?_
                    refine V_getI fd_X6_100 dX6_readPart_154 (by assumption) rfl ?_
                    rw [xSpt_4]
                    refine V_if_ne (tgt := 161) dX6_readPart_157 (by decide) (fun h157 => ?_) (fun h157 => ?_)
                    · exact absurd rfl h157
                    · exact V_vret rfl dX6_readPart_160 (by decide) (by decide) ⟨rfl, rfl⟩
                · exact absurd h121 (by decide)
              · exact absurd h110 (by decide)
            · exact absurd h99 (by decide)
          · exact absurd h60 (by decide)
        · exact absurd h53 (by decide)
      · exact absurd rfl h14
  by_cases c2 : g a = 103
  · have c := c2
    have kl : kPaL g a = 2 := by unfold kPaL; rw [if_neg (by rw [c]; decide), if_pos c]
    have kp : kErrP g a = kErrN g (a + 1) 1 1 9 := by unfold kErrP; rw [if_neg (by rw [c]; decide), if_pos c]
    rcases kDg1 (g := g) (p := a + 1) (by omega) with ⟨k9, q1⟩ | ⟨k9, q1⟩
    · rw [kp, if_pos k9, kl, rPart_g c]
      rw [rDg_t q1, rDv_t q1] at kd
      refine V_ald0 dX6_readPart_0 ?_
      refine V_getR fd_X6_7 dX6_readPart_1 (by assumption) (by assumption) rfl ?_
      refine V_ald0 dX6_readPart_4 ?_
      refine V_getI fd_X6_97 dX6_readPart_5 (by assumption) rfl ?_
      refine V_iald (j := a) dX6_readPart_8 (by assumption) h3 (by omega) ?_
      rw [el, c]
      refine V_ist1 dX6_readPart_9 rfl (by decide) ?_
      refine V_ald0 dX6_readPart_10 ?_
      refine V_ild1 dX6_readPart_11 ?_
      refine V_bipush (v := 100) dX6_readPart_12 (by decide) ?_
      refine V_icmp_eq (tgt := 41) dX6_readPart_14 (by decide) (fun h14 => ?_) (fun h14 => ?_)
      · exact absurd h14 (by decide)
      · refine V_ild1 dX6_readPart_17 ?_
        refine V_bipush (v := 112) dX6_readPart_18 (by decide) ?_
        refine V_icmp_eq (tgt := 41) dX6_readPart_20 (by decide) (fun h20 => ?_) (fun h20 => ?_)
        · exact absurd h20 (by decide)
        · refine V_ild1 dX6_readPart_23 ?_
          refine V_bipush (v := 116) dX6_readPart_24 (by decide) ?_
          refine V_icmp_eq (tgt := 41) dX6_readPart_26 (by decide) (fun h26 => ?_) (fun h26 => ?_)
          · exact absurd h26 (by decide)
          · refine V_ild1 dX6_readPart_29 ?_
            refine V_bipush (v := 119) dX6_readPart_30 (by decide) ?_
            refine V_icmp_eq (tgt := 41) dX6_readPart_32 (by decide) (fun h32 => ?_) (fun h32 => ?_)
            · exact absurd h32 (by decide)
            · refine V_ild1 dX6_readPart_35 ?_
              refine V_bipush (v := 103) dX6_readPart_36 (by decide) ?_
              refine V_icmp_ne (tgt := 45) dX6_readPart_38 (by decide) (fun h38 => ?_) (fun h38 => ?_)
              · exact absurd rfl h38
              · refine V_iconst (v := 1) dX6_readPart_41 (by decide) ?_
                refine V_goto (tgt := 46) dX6_readPart_42 (by decide) ?_
                refine V_cv1U lk_X6_106 cc_X6_accept dX6_readPart_46 (by assumption) (ka) ft_X6_readPart_X6_accept rfl rfl (Nat.le_of_ble_eq_true rfl) ?_
                refine V_ald0 dX6_readPart_49 ?_
                refine V_getI fd_X6_100 dX6_readPart_50 (by assumption) rfl ?_
                rw [xSpt_4]
                refine V_if_ne (tgt := 57) dX6_readPart_53 (by decide) (fun h53 => ?_) (fun h53 => ?_)
                · refine V_ild1 dX6_readPart_57 ?_
                  refine V_bipush (v := 103) dX6_readPart_58 (by decide) ?_
                  refine V_icmp_ne (tgt := 95) dX6_readPart_60 (by decide) (fun h60 => ?_) (fun h60 => ?_)
                  · exact absurd rfl h60
                  · refine V_ald0 dX6_readPart_63 ?_
                    refine V_iconst (v := 1) dX6_readPart_64 (by decide) ?_
                    refine V_bipush (v := 9) dX6_readPart_65 (by decide) ?_
                    refine V_cv2R lk_X6_110 cc_X6_digit dX6_readPart_67 (by assumption) (kd) ft_X6_readPart_X6_digit rfl rfl (Nat.le_of_ble_eq_true rfl) ?_
                    refine V_ist2 dX6_readPart_70 rfl (by decide) ?_
                    refine V_ald0 dX6_readPart_71 ?_
                    refine V_getR fd_X6_13 dX6_readPart_72 (by assumption) (by assumption) rfl ?_
                    refine V_iconst (v := 3) dX6_readPart_75 (by decide) ?_
                    refine V_ald0 dX6_readPart_76 ?_
                    refine V_getI fd_X6_100 dX6_readPart_77 (by assumption) rfl ?_
                    rw [xSpt_4]
                    refine V_if_eq (tgt := 87) dX6_readPart_80 (by decide) (fun h80 => ?_) (fun h80 => ?_)
                    · exact absurd (show bB true = 0 from h80) (by decide)
                    · refine V_ild2 dX6_readPart_83 ?_
                      refine V_goto (tgt := 93) dX6_readPart_84 (by decide) ?_
                      refine V_iast (j := 3) dX6_readPart_93 (by assumption) (by decide) (by decide) ?_
                      exact V_vret rfl dX6_readPart_94 (by decide) (by decide) ⟨rfl, by rw [xup_r, o2]⟩
                · exact absurd h53 (by decide)
    · rw [kp, if_neg (by rw [k9]; exact nI_m9 (by omega)), k9, nI_clamp (by omega)]
      rw [rDg_n q1] at kd
      refine V_ald0 dX6_readPart_0 ?_
      refine V_getR fd_X6_7 dX6_readPart_1 (by assumption) (by assumption) rfl ?_
      refine V_ald0 dX6_readPart_4 ?_
      refine V_getI fd_X6_97 dX6_readPart_5 (by assumption) rfl ?_
      refine V_iald (j := a) dX6_readPart_8 (by assumption) h3 (by omega) ?_
      rw [el, c]
      refine V_ist1 dX6_readPart_9 rfl (by decide) ?_
      refine V_ald0 dX6_readPart_10 ?_
      refine V_ild1 dX6_readPart_11 ?_
      refine V_bipush (v := 100) dX6_readPart_12 (by decide) ?_
      refine V_icmp_eq (tgt := 41) dX6_readPart_14 (by decide) (fun h14 => ?_) (fun h14 => ?_)
      · exact absurd h14 (by decide)
      · refine V_ild1 dX6_readPart_17 ?_
        refine V_bipush (v := 112) dX6_readPart_18 (by decide) ?_
        refine V_icmp_eq (tgt := 41) dX6_readPart_20 (by decide) (fun h20 => ?_) (fun h20 => ?_)
        · exact absurd h20 (by decide)
        · refine V_ild1 dX6_readPart_23 ?_
          refine V_bipush (v := 116) dX6_readPart_24 (by decide) ?_
          refine V_icmp_eq (tgt := 41) dX6_readPart_26 (by decide) (fun h26 => ?_) (fun h26 => ?_)
          · exact absurd h26 (by decide)
          · refine V_ild1 dX6_readPart_29 ?_
            refine V_bipush (v := 119) dX6_readPart_30 (by decide) ?_
            refine V_icmp_eq (tgt := 41) dX6_readPart_32 (by decide) (fun h32 => ?_) (fun h32 => ?_)
            · exact absurd h32 (by decide)
            · refine V_ild1 dX6_readPart_35 ?_
              refine V_bipush (v := 103) dX6_readPart_36 (by decide) ?_
              refine V_icmp_ne (tgt := 45) dX6_readPart_38 (by decide) (fun h38 => ?_) (fun h38 => ?_)
              · exact absurd rfl h38
              · refine V_iconst (v := 1) dX6_readPart_41 (by decide) ?_
                refine V_goto (tgt := 46) dX6_readPart_42 (by decide) ?_
                refine V_cv1U lk_X6_106 cc_X6_accept dX6_readPart_46 (by assumption) (ka) ft_X6_readPart_X6_accept rfl rfl (Nat.le_of_ble_eq_true rfl) ?_
                refine V_ald0 dX6_readPart_49 ?_
                refine V_getI fd_X6_100 dX6_readPart_50 (by assumption) rfl ?_
                rw [xSpt_4]
                refine V_if_ne (tgt := 57) dX6_readPart_53 (by decide) (fun h53 => ?_) (fun h53 => ?_)
                · refine V_ild1 dX6_readPart_57 ?_
                  refine V_bipush (v := 103) dX6_readPart_58 (by decide) ?_
                  refine V_icmp_ne (tgt := 95) dX6_readPart_60 (by decide) (fun h60 => ?_) (fun h60 => ?_)
                  · exact absurd rfl h60
                  · refine V_ald0 dX6_readPart_63 ?_
                    refine V_iconst (v := 1) dX6_readPart_64 (by decide) ?_
                    refine V_bipush (v := 9) dX6_readPart_65 (by decide) ?_
                    refine V_cv2R lk_X6_110 cc_X6_digit dX6_readPart_67 (by assumption) (kd) ft_X6_readPart_X6_digit rfl rfl (Nat.le_of_ble_eq_true rfl) ?_
                    refine V_ist2 dX6_readPart_70 rfl (by decide) ?_
                    refine V_ald0 dX6_readPart_71 ?_
                    refine V_getR fd_X6_13 dX6_readPart_72 (by assumption) (by assumption) rfl ?_
                    refine V_iconst (v := 3) dX6_readPart_75 (by decide) ?_
                    refine V_ald0 dX6_readPart_76 ?_
                    refine V_getI fd_X6_100 dX6_readPart_77 (by assumption) rfl ?_
                    rw [xSpt_4]
                    refine V_if_eq (tgt := 87) dX6_readPart_80 (by decide) (fun h80 => ?_) (fun h80 => ?_)
                    · refine V_ald0 dX6_readPart_87 ?_
                      refine V_getR fd_X6_13 dX6_readPart_88 (by assumption) (by assumption) rfl ?_
                      refine V_iconst (v := 3) dX6_readPart_91 (by decide) ?_
                      refine V_iald (j := 3) dX6_readPart_92 (by assumption) (by decide) (by decide) ?_
                      refine V_iast (j := 3) dX6_readPart_93 (by assumption) (by decide) (by decide) ?_
                      exact V_vret rfl dX6_readPart_94 (by decide) (by decide) ⟨rfl, by rw [xup_sm]⟩
                    · exact absurd rfl h80
                · exact absurd h53 (by decide)
  by_cases c3 : g a = 112
  · have c := c3
    have kl : kPaL g a = 3 := by unfold kPaL; rw [if_neg (by rw [c]; decide), if_neg (by rw [c]; decide)]
    have kp : kErrP g a = kErrN g (a + 1) 2 1 99 := by unfold kErrP; rw [if_neg (by rw [c]; decide), if_neg (by rw [c]; decide), if_pos c]
    rcases kTw (g := g) (p := a + 1) (lo := 1) (hi := 99) (by omega) (by decide) (by decide) with ⟨k9, q1, v1⟩ | ⟨e, e9, k9, q1⟩
    · have k9 : kErrN g (a + 1) 2 1 99 = -9 := k9
      have q1 : rTw g (true, a + 1) 1 99 = (true, a + 3) := q1
      have v1 : rTv g (true, a + 1) 1 99 = rNum g (a + 1) := v1
      rw [kp, if_pos k9, kl, rPart_p c]
      have k1 : Con E l Y_X6_two [.ref m, .int 1, .int 99] (x, n, K, G, xSpt M m true (a + 1), L) (xR (some (.int (rNum g (a + 1)))) (x, n, K, G, xSpt M m true (a + 3), L)) xF := by
        have := kt (true, a + 1) 1 99 (by show a + 1 < 900; omega); rw [q1, v1] at this; exact this
      refine V_ald0 dX6_readPart_0 ?_
      refine V_getR fd_X6_7 dX6_readPart_1 (by assumption) (by assumption) rfl ?_
      refine V_ald0 dX6_readPart_4 ?_
      refine V_getI fd_X6_97 dX6_readPart_5 (by assumption) rfl ?_
      refine V_iald (j := a) dX6_readPart_8 (by assumption) h3 (by omega) ?_
      rw [el, c]
      refine V_ist1 dX6_readPart_9 rfl (by decide) ?_
      refine V_ald0 dX6_readPart_10 ?_
      refine V_ild1 dX6_readPart_11 ?_
      refine V_bipush (v := 100) dX6_readPart_12 (by decide) ?_
      refine V_icmp_eq (tgt := 41) dX6_readPart_14 (by decide) (fun h14 => ?_) (fun h14 => ?_)
      · exact absurd h14 (by decide)
      · refine V_ild1 dX6_readPart_17 ?_
        refine V_bipush (v := 112) dX6_readPart_18 (by decide) ?_
        refine V_icmp_eq (tgt := 41) dX6_readPart_20 (by decide) (fun h20 => ?_) (fun h20 => ?_)
        · refine V_iconst (v := 1) dX6_readPart_41 (by decide) ?_
          refine V_goto (tgt := 46) dX6_readPart_42 (by decide) ?_
          refine V_cv1U lk_X6_106 cc_X6_accept dX6_readPart_46 (by assumption) (ka) ft_X6_readPart_X6_accept rfl rfl (Nat.le_of_ble_eq_true rfl) ?_
          refine V_ald0 dX6_readPart_49 ?_
          refine V_getI fd_X6_100 dX6_readPart_50 (by assumption) rfl ?_
          rw [xSpt_4]
          refine V_if_ne (tgt := 57) dX6_readPart_53 (by decide) (fun h53 => ?_) (fun h53 => ?_)
          · refine V_ild1 dX6_readPart_57 ?_
            refine V_bipush (v := 103) dX6_readPart_58 (by decide) ?_
            refine V_icmp_ne (tgt := 95) dX6_readPart_60 (by decide) (fun h60 => ?_) (fun h60 => ?_)
            · refine V_ald0 dX6_readPart_95 ?_
              refine V_ild1 dX6_readPart_96 ?_
              refine V_bipush (v := 112) dX6_readPart_97 (by decide) ?_
              refine V_icmp_ne (tgt := 106) dX6_readPart_99 (by decide) (fun h99 => ?_) (fun h99 => ?_)
              · exact absurd rfl h99
              · refine V_iconst (v := 1) dX6_readPart_102 (by decide) ?_
                refine V_goto (tgt := 107) dX6_readPart_103 (by decide) ?_
                refine V_ild1 dX6_readPart_107 ?_
                refine V_bipush (v := 116) dX6_readPart_108 (by decide) ?_
                refine V_icmp_ne (tgt := 118) dX6_readPart_110 (by decide) (fun h110 => ?_) (fun h110 => ?_)
                · refine V_ild1 dX6_readPart_118 ?_
                  refine V_bipush (v := 119) dX6_readPart_119 (by decide) ?_
                  refine V_icmp_ne (tgt := 129) dX6_readPart_121 (by decide) (fun h121 => ?_) (fun h121 => ?_)
                  · refine V_bipush (v := 99) dX6_readPart_129 (by decide) ?_
                    refine V_cv2R lk_X6_114 cc_X6_two dX6_readPart_131 (by assumption) (k1) ft_X6_readPart_X6_two rfl rfl (Nat.le_of_ble_eq_true rfl) ?_
                    refine V_ist2 dX6_readPart_134 rfl (by decide) ?_
                    refine V_ild1 dX6_readPart_135 ?_
                    refine V_bipush (v := 100) dX6_readPart_136 (by decide) ?_
                    refine V_icmp_ne (tgt := 151) dX6_readPart_138 (by decide) (fun h138 => ?_) (fun h138 => ?_)
                    · refine V_iconst (v := 0) dX6_readPart_151 (by decide) ?_
                      refine V_ist3 dX6_readPart_152 rfl (by decide) ?_
                      refine V_ald0 dX6_readPart_153 ?_
                      refine V_getI fd_X6_100 dX6_readPart_154 (by assumption) rfl ?_
                      rw [xSpt_4]
                      refine V_if_ne (tgt := 161) dX6_readPart_157 (by decide) (fun h157 => ?_) (fun h157 => ?_)
                      · refine V_ild1 dX6_readPart_161 ?_
                        refine V_bipush (v := 100) dX6_readPart_162 (by decide) ?_
                        refine V_icmp_ne (tgt := 180) dX6_readPart_164 (by decide) (fun h164 => ?_) (fun h164 => ?_)
                        · refine V_ild1 dX6_readPart_180 ?_
                          refine V_bipush (v := 112) dX6_readPart_181 (by decide) ?_
                          refine V_icmp_ne (tgt := 197) dX6_readPart_183 (by decide) (fun h183 => ?_) (fun h183 => ?_)
                          · exact absurd rfl h183
                          · refine V_ald0 dX6_readPart_186 ?_
                            refine V_getR fd_X6_13 dX6_readPart_187 (by assumption) (by assumption) rfl ?_
                            refine V_ild2 dX6_readPart_190 ?_
                            refine V_cs2U lk_X6_72 cc_X6_goTicks dX6_readPart_191 (c_X6_goTicks hr _) ft_X6_readPart_X6_goTicks rfl rfl (Nat.le_of_ble_eq_true rfl) ?_
                            refine V_goto (tgt := 216) dX6_readPart_194 (by decide) ?_
                            exact V_vret rfl dX6_readPart_216 (by decide) (by decide) ⟨rfl, by rw [o2]⟩
                        · exact absurd h164 (by decide)
                      · exact absurd h157 (by decide)
                    · exact absurd h138 (by decide)
                  · exact absurd h121 (by decide)
                · exact absurd h110 (by decide)
            · exact absurd h60 (by decide)
          · exact absurd h53 (by decide)
        · exact absurd rfl h20
    · have k9 : kErrN g (a + 1) 2 1 99 = nI e := k9
      have q1 : rTw g (true, a + 1) 1 99 = (false, e) := q1
      rw [kp, if_neg (by rw [k9]; exact nI_m9 (by omega)), k9, nI_clamp (by omega)]
      have k1 := kt (true, a + 1) 1 99 (by show a + 1 < 900; omega)
      rw [q1] at k1
      refine V_ald0 dX6_readPart_0 ?_
      refine V_getR fd_X6_7 dX6_readPart_1 (by assumption) (by assumption) rfl ?_
      refine V_ald0 dX6_readPart_4 ?_
      refine V_getI fd_X6_97 dX6_readPart_5 (by assumption) rfl ?_
      refine V_iald (j := a) dX6_readPart_8 (by assumption) h3 (by omega) ?_
      rw [el, c]
      refine V_ist1 dX6_readPart_9 rfl (by decide) ?_
      refine V_ald0 dX6_readPart_10 ?_
      refine V_ild1 dX6_readPart_11 ?_
      refine V_bipush (v := 100) dX6_readPart_12 (by decide) ?_
      refine V_icmp_eq (tgt := 41) dX6_readPart_14 (by decide) (fun h14 => ?_) (fun h14 => ?_)
      · exact absurd h14 (by decide)
      · refine V_ild1 dX6_readPart_17 ?_
        refine V_bipush (v := 112) dX6_readPart_18 (by decide) ?_
        refine V_icmp_eq (tgt := 41) dX6_readPart_20 (by decide) (fun h20 => ?_) (fun h20 => ?_)
        · refine V_iconst (v := 1) dX6_readPart_41 (by decide) ?_
          refine V_goto (tgt := 46) dX6_readPart_42 (by decide) ?_
          refine V_cv1U lk_X6_106 cc_X6_accept dX6_readPart_46 (by assumption) (ka) ft_X6_readPart_X6_accept rfl rfl (Nat.le_of_ble_eq_true rfl) ?_
          refine V_ald0 dX6_readPart_49 ?_
          refine V_getI fd_X6_100 dX6_readPart_50 (by assumption) rfl ?_
          rw [xSpt_4]
          refine V_if_ne (tgt := 57) dX6_readPart_53 (by decide) (fun h53 => ?_) (fun h53 => ?_)
          · refine V_ild1 dX6_readPart_57 ?_
            refine V_bipush (v := 103) dX6_readPart_58 (by decide) ?_
            refine V_icmp_ne (tgt := 95) dX6_readPart_60 (by decide) (fun h60 => ?_) (fun h60 => ?_)
            · refine V_ald0 dX6_readPart_95 ?_
              refine V_ild1 dX6_readPart_96 ?_
              refine V_bipush (v := 112) dX6_readPart_97 (by decide) ?_
              refine V_icmp_ne (tgt := 106) dX6_readPart_99 (by decide) (fun h99 => ?_) (fun h99 => ?_)
              · exact absurd rfl h99
              · refine V_iconst (v := 1) dX6_readPart_102 (by decide) ?_
                refine V_goto (tgt := 107) dX6_readPart_103 (by decide) ?_
                refine V_ild1 dX6_readPart_107 ?_
                refine V_bipush (v := 116) dX6_readPart_108 (by decide) ?_
                refine V_icmp_ne (tgt := 118) dX6_readPart_110 (by decide) (fun h110 => ?_) (fun h110 => ?_)
                · refine V_ild1 dX6_readPart_118 ?_
                  refine V_bipush (v := 119) dX6_readPart_119 (by decide) ?_
                  refine V_icmp_ne (tgt := 129) dX6_readPart_121 (by decide) (fun h121 => ?_) (fun h121 => ?_)
                  · refine V_bipush (v := 99) dX6_readPart_129 (by decide) ?_
                    refine V_cv2R lk_X6_114 cc_X6_two dX6_readPart_131 (by assumption) (k1) ft_X6_readPart_X6_two rfl rfl (Nat.le_of_ble_eq_true rfl) ?_
                    refine V_ist2 dX6_readPart_134 rfl (by decide) ?_
                    refine V_ild1 dX6_readPart_135 ?_
                    refine V_bipush (v := 100) dX6_readPart_136 (by decide) ?_
                    refine V_icmp_ne (tgt := 151) dX6_readPart_138 (by decide) (fun h138 => ?_) (fun h138 => ?_)
                    · refine V_iconst (v := 0) dX6_readPart_151 (by decide) ?_
                      refine V_ist3 dX6_readPart_152 rfl (by decide) ?_
                      refine V_ald0 dX6_readPart_153 ?_
                      refine V_getI fd_X6_100 dX6_readPart_154 (by assumption) rfl ?_
                      rw [xSpt_4]
                      refine V_if_ne (tgt := 161) dX6_readPart_157 (by decide) (fun h157 => ?_) (fun h157 => ?_)
                      · exact absurd rfl h157
                      · exact V_vret rfl dX6_readPart_160 (by decide) (by decide) ⟨rfl, rfl⟩
                    · exact absurd h138 (by decide)
                  · exact absurd h121 (by decide)
                · exact absurd h110 (by decide)
            · exact absurd h60 (by decide)
          · exact absurd h53 (by decide)
        · exact absurd rfl h20
  by_cases c4 : g a = 116
  · have c := c4
    have kl : kPaL g a = 3 := by unfold kPaL; rw [if_neg (by rw [c]; decide), if_neg (by rw [c]; decide)]
    have kp : kErrP g a = kErrN g (a + 1) 2 0 40 := by unfold kErrP; rw [if_neg (by rw [c]; decide), if_neg (by rw [c]; decide), if_neg (by rw [c]; decide), if_pos c]
    rcases kTw (g := g) (p := a + 1) (lo := 0) (hi := 40) (by omega) (by decide) (by decide) with ⟨k9, q1, v1⟩ | ⟨e, e9, k9, q1⟩
    · have k9 : kErrN g (a + 1) 2 0 40 = -9 := k9
      have q1 : rTw g (true, a + 1) 0 40 = (true, a + 3) := q1
      have v1 : rTv g (true, a + 1) 0 40 = rNum g (a + 1) := v1
      rw [kp, if_pos k9, kl, rPart_t c]
      have k1 : Con E l Y_X6_two [.ref m, .int 0, .int 40] (x, n, K, G, xSpt M m true (a + 1), L) (xR (some (.int (rNum g (a + 1)))) (x, n, K, G, xSpt M m true (a + 3), L)) xF := by
        have := kt (true, a + 1) 0 40 (by show a + 1 < 900; omega); rw [q1, v1] at this; exact this
      refine V_ald0 dX6_readPart_0 ?_
      refine V_getR fd_X6_7 dX6_readPart_1 (by assumption) (by assumption) rfl ?_
      refine V_ald0 dX6_readPart_4 ?_
      refine V_getI fd_X6_97 dX6_readPart_5 (by assumption) rfl ?_
      refine V_iald (j := a) dX6_readPart_8 (by assumption) h3 (by omega) ?_
      rw [el, c]
      refine V_ist1 dX6_readPart_9 rfl (by decide) ?_
      refine V_ald0 dX6_readPart_10 ?_
      refine V_ild1 dX6_readPart_11 ?_
      refine V_bipush (v := 100) dX6_readPart_12 (by decide) ?_
      refine V_icmp_eq (tgt := 41) dX6_readPart_14 (by decide) (fun h14 => ?_) (fun h14 => ?_)
      · exact absurd h14 (by decide)
      · refine V_ild1 dX6_readPart_17 ?_
        refine V_bipush (v := 112) dX6_readPart_18 (by decide) ?_
        refine V_icmp_eq (tgt := 41) dX6_readPart_20 (by decide) (fun h20 => ?_) (fun h20 => ?_)
        · exact absurd h20 (by decide)
        · refine V_ild1 dX6_readPart_23 ?_
          refine V_bipush (v := 116) dX6_readPart_24 (by decide) ?_
          refine V_icmp_eq (tgt := 41) dX6_readPart_26 (by decide) (fun h26 => ?_) (fun h26 => ?_)
          · refine V_iconst (v := 1) dX6_readPart_41 (by decide) ?_
            refine V_goto (tgt := 46) dX6_readPart_42 (by decide) ?_
            refine V_cv1U lk_X6_106 cc_X6_accept dX6_readPart_46 (by assumption) (ka) ft_X6_readPart_X6_accept rfl rfl (Nat.le_of_ble_eq_true rfl) ?_
            refine V_ald0 dX6_readPart_49 ?_
            refine V_getI fd_X6_100 dX6_readPart_50 (by assumption) rfl ?_
            rw [xSpt_4]
            refine V_if_ne (tgt := 57) dX6_readPart_53 (by decide) (fun h53 => ?_) (fun h53 => ?_)
            · refine V_ild1 dX6_readPart_57 ?_
              refine V_bipush (v := 103) dX6_readPart_58 (by decide) ?_
              refine V_icmp_ne (tgt := 95) dX6_readPart_60 (by decide) (fun h60 => ?_) (fun h60 => ?_)
              · refine V_ald0 dX6_readPart_95 ?_
                refine V_ild1 dX6_readPart_96 ?_
                refine V_bipush (v := 112) dX6_readPart_97 (by decide) ?_
                refine V_icmp_ne (tgt := 106) dX6_readPart_99 (by decide) (fun h99 => ?_) (fun h99 => ?_)
                · refine V_iconst (v := 0) dX6_readPart_106 (by decide) ?_
                  refine V_ild1 dX6_readPart_107 ?_
                  refine V_bipush (v := 116) dX6_readPart_108 (by decide) ?_
                  refine V_icmp_ne (tgt := 118) dX6_readPart_110 (by decide) (fun h110 => ?_) (fun h110 => ?_)
                  · exact absurd rfl h110
                  · refine V_bipush (v := 40) dX6_readPart_113 (by decide) ?_
                    refine V_goto (tgt := 131) dX6_readPart_115 (by decide) ?_
                    refine V_cv2R lk_X6_114 cc_X6_two dX6_readPart_131 (by assumption) (k1) ft_X6_readPart_X6_two rfl rfl (Nat.le_of_ble_eq_true rfl) ?_
                    refine V_ist2 dX6_readPart_134 rfl (by decide) ?_
                    refine V_ild1 dX6_readPart_135 ?_
                    refine V_bipush (v := 100) dX6_readPart_136 (by decide) ?_
                    refine V_icmp_ne (tgt := 151) dX6_readPart_138 (by decide) (fun h138 => ?_) (fun h138 => ?_)
                    · refine V_iconst (v := 0) dX6_readPart_151 (by decide) ?_
                      refine V_ist3 dX6_readPart_152 rfl (by decide) ?_
                      refine V_ald0 dX6_readPart_153 ?_
                      refine V_getI fd_X6_100 dX6_readPart_154 (by assumption) rfl ?_
                      rw [xSpt_4]
                      refine V_if_ne (tgt := 161) dX6_readPart_157 (by decide) (fun h157 => ?_) (fun h157 => ?_)
                      · refine V_ild1 dX6_readPart_161 ?_
                        refine V_bipush (v := 100) dX6_readPart_162 (by decide) ?_
                        refine V_icmp_ne (tgt := 180) dX6_readPart_164 (by decide) (fun h164 => ?_) (fun h164 => ?_)
                        · refine V_ild1 dX6_readPart_180 ?_
                          refine V_bipush (v := 112) dX6_readPart_181 (by decide) ?_
                          refine V_icmp_ne (tgt := 197) dX6_readPart_183 (by decide) (fun h183 => ?_) (fun h183 => ?_)
                          · refine V_ald0 dX6_readPart_197 ?_
                            refine V_getR fd_X6_13 dX6_readPart_198 (by assumption) (by assumption) rfl ?_
                            refine V_iconst (v := 1) dX6_readPart_201 (by decide) ?_
                            refine V_ild1 dX6_readPart_202 ?_
                            refine V_bipush (v := 116) dX6_readPart_203 (by decide) ?_
                            refine V_icmp_ne (tgt := 212) dX6_readPart_205 (by decide) (fun h205 => ?_) (fun h205 => ?_)
                            · exact absurd rfl h205
                            · refine V_iconst (v := 0) dX6_readPart_208 (by decide) ?_
                              refine V_goto (tgt := 213) dX6_readPart_209 (by decide) ?_
                              refine V_iadd dX6_readPart_213 ?_
                              refine V_ild2 dX6_readPart_214 ?_
                              refine V_iast (j := 1) dX6_readPart_215 (by assumption) (by decide) (by omega) ?_
                              exact V_vret rfl dX6_readPart_216 (by decide) (by decide) ⟨rfl, by rw [xup_r, o2]⟩
                          · exact absurd h183 (by decide)
                        · exact absurd h164 (by decide)
                      · exact absurd h157 (by decide)
                    · exact absurd h138 (by decide)
                · exact absurd h99 (by decide)
              · exact absurd h60 (by decide)
            · exact absurd h53 (by decide)
          · exact absurd rfl h26
    · have k9 : kErrN g (a + 1) 2 0 40 = nI e := k9
      have q1 : rTw g (true, a + 1) 0 40 = (false, e) := q1
      rw [kp, if_neg (by rw [k9]; exact nI_m9 (by omega)), k9, nI_clamp (by omega)]
      have k1 := kt (true, a + 1) 0 40 (by show a + 1 < 900; omega)
      rw [q1] at k1
      refine V_ald0 dX6_readPart_0 ?_
      refine V_getR fd_X6_7 dX6_readPart_1 (by assumption) (by assumption) rfl ?_
      refine V_ald0 dX6_readPart_4 ?_
      refine V_getI fd_X6_97 dX6_readPart_5 (by assumption) rfl ?_
      refine V_iald (j := a) dX6_readPart_8 (by assumption) h3 (by omega) ?_
      rw [el, c]
      refine V_ist1 dX6_readPart_9 rfl (by decide) ?_
      refine V_ald0 dX6_readPart_10 ?_
      refine V_ild1 dX6_readPart_11 ?_
      refine V_bipush (v := 100) dX6_readPart_12 (by decide) ?_
      refine V_icmp_eq (tgt := 41) dX6_readPart_14 (by decide) (fun h14 => ?_) (fun h14 => ?_)
      · exact absurd h14 (by decide)
      · refine V_ild1 dX6_readPart_17 ?_
        refine V_bipush (v := 112) dX6_readPart_18 (by decide) ?_
        refine V_icmp_eq (tgt := 41) dX6_readPart_20 (by decide) (fun h20 => ?_) (fun h20 => ?_)
        · exact absurd h20 (by decide)
        · refine V_ild1 dX6_readPart_23 ?_
          refine V_bipush (v := 116) dX6_readPart_24 (by decide) ?_
          refine V_icmp_eq (tgt := 41) dX6_readPart_26 (by decide) (fun h26 => ?_) (fun h26 => ?_)
          · refine V_iconst (v := 1) dX6_readPart_41 (by decide) ?_
            refine V_goto (tgt := 46) dX6_readPart_42 (by decide) ?_
            refine V_cv1U lk_X6_106 cc_X6_accept dX6_readPart_46 (by assumption) (ka) ft_X6_readPart_X6_accept rfl rfl (Nat.le_of_ble_eq_true rfl) ?_
            refine V_ald0 dX6_readPart_49 ?_
            refine V_getI fd_X6_100 dX6_readPart_50 (by assumption) rfl ?_
            rw [xSpt_4]
            refine V_if_ne (tgt := 57) dX6_readPart_53 (by decide) (fun h53 => ?_) (fun h53 => ?_)
            · refine V_ild1 dX6_readPart_57 ?_
              refine V_bipush (v := 103) dX6_readPart_58 (by decide) ?_
              refine V_icmp_ne (tgt := 95) dX6_readPart_60 (by decide) (fun h60 => ?_) (fun h60 => ?_)
              · refine V_ald0 dX6_readPart_95 ?_
                refine V_ild1 dX6_readPart_96 ?_
                refine V_bipush (v := 112) dX6_readPart_97 (by decide) ?_
                refine V_icmp_ne (tgt := 106) dX6_readPart_99 (by decide) (fun h99 => ?_) (fun h99 => ?_)
                · refine V_iconst (v := 0) dX6_readPart_106 (by decide) ?_
                  refine V_ild1 dX6_readPart_107 ?_
                  refine V_bipush (v := 116) dX6_readPart_108 (by decide) ?_
                  refine V_icmp_ne (tgt := 118) dX6_readPart_110 (by decide) (fun h110 => ?_) (fun h110 => ?_)
                  · exact absurd rfl h110
                  · refine V_bipush (v := 40) dX6_readPart_113 (by decide) ?_
                    refine V_goto (tgt := 131) dX6_readPart_115 (by decide) ?_
                    refine V_cv2R lk_X6_114 cc_X6_two dX6_readPart_131 (by assumption) (k1) ft_X6_readPart_X6_two rfl rfl (Nat.le_of_ble_eq_true rfl) ?_
                    refine V_ist2 dX6_readPart_134 rfl (by decide) ?_
                    refine V_ild1 dX6_readPart_135 ?_
                    refine V_bipush (v := 100) dX6_readPart_136 (by decide) ?_
                    refine V_icmp_ne (tgt := 151) dX6_readPart_138 (by decide) (fun h138 => ?_) (fun h138 => ?_)
                    · refine V_iconst (v := 0) dX6_readPart_151 (by decide) ?_
                      refine V_ist3 dX6_readPart_152 rfl (by decide) ?_
                      refine V_ald0 dX6_readPart_153 ?_
                      refine V_getI fd_X6_100 dX6_readPart_154 (by assumption) rfl ?_
                      rw [xSpt_4]
                      refine V_if_ne (tgt := 161) dX6_readPart_157 (by decide) (fun h157 => ?_) (fun h157 => ?_)
                      · exact absurd rfl h157
                      · exact V_vret rfl dX6_readPart_160 (by decide) (by decide) ⟨rfl, rfl⟩
                    · exact absurd h138 (by decide)
                · exact absurd h99 (by decide)
              · exact absurd h60 (by decide)
            · exact absurd h53 (by decide)
          · exact absurd rfl h26
  by_cases c5 : g a = 119
  · have c := c5
    have kl : kPaL g a = 3 := by unfold kPaL; rw [if_neg (by rw [c]; decide), if_neg (by rw [c]; decide)]
    have kp : kErrP g a = kErrN g (a + 1) 2 0 20 := by unfold kErrP; rw [if_neg (by rw [c]; decide), if_neg (by rw [c]; decide), if_neg (by rw [c]; decide), if_neg (by rw [c]; decide), if_pos c]
    rcases kTw (g := g) (p := a + 1) (lo := 0) (hi := 20) (by omega) (by decide) (by decide) with ⟨k9, q1, v1⟩ | ⟨e, e9, k9, q1⟩
    · have k9 : kErrN g (a + 1) 2 0 20 = -9 := k9
      have q1 : rTw g (true, a + 1) 0 20 = (true, a + 3) := q1
      have v1 : rTv g (true, a + 1) 0 20 = rNum g (a + 1) := v1
      rw [kp, if_pos k9, kl, rPart_w c]
      have k1 : Con E l Y_X6_two [.ref m, .int 0, .int 20] (x, n, K, G, xSpt M m true (a + 1), L) (xR (some (.int (rNum g (a + 1)))) (x, n, K, G, xSpt M m true (a + 3), L)) xF := by
        have := kt (true, a + 1) 0 20 (by show a + 1 < 900; omega); rw [q1, v1] at this; exact this
      refine V_ald0 dX6_readPart_0 ?_
      refine V_getR fd_X6_7 dX6_readPart_1 (by assumption) (by assumption) rfl ?_
      refine V_ald0 dX6_readPart_4 ?_
      refine V_getI fd_X6_97 dX6_readPart_5 (by assumption) rfl ?_
      refine V_iald (j := a) dX6_readPart_8 (by assumption) h3 (by omega) ?_
      rw [el, c]
      refine V_ist1 dX6_readPart_9 rfl (by decide) ?_
      refine V_ald0 dX6_readPart_10 ?_
      refine V_ild1 dX6_readPart_11 ?_
      refine V_bipush (v := 100) dX6_readPart_12 (by decide) ?_
      refine V_icmp_eq (tgt := 41) dX6_readPart_14 (by decide) (fun h14 => ?_) (fun h14 => ?_)
      · exact absurd h14 (by decide)
      · refine V_ild1 dX6_readPart_17 ?_
        refine V_bipush (v := 112) dX6_readPart_18 (by decide) ?_
        refine V_icmp_eq (tgt := 41) dX6_readPart_20 (by decide) (fun h20 => ?_) (fun h20 => ?_)
        · exact absurd h20 (by decide)
        · refine V_ild1 dX6_readPart_23 ?_
          refine V_bipush (v := 116) dX6_readPart_24 (by decide) ?_
          refine V_icmp_eq (tgt := 41) dX6_readPart_26 (by decide) (fun h26 => ?_) (fun h26 => ?_)
          · exact absurd h26 (by decide)
          · refine V_ild1 dX6_readPart_29 ?_
            refine V_bipush (v := 119) dX6_readPart_30 (by decide) ?_
            refine V_icmp_eq (tgt := 41) dX6_readPart_32 (by decide) (fun h32 => ?_) (fun h32 => ?_)
            · refine V_iconst (v := 1) dX6_readPart_41 (by decide) ?_
              refine V_goto (tgt := 46) dX6_readPart_42 (by decide) ?_
              refine V_cv1U lk_X6_106 cc_X6_accept dX6_readPart_46 (by assumption) (ka) ft_X6_readPart_X6_accept rfl rfl (Nat.le_of_ble_eq_true rfl) ?_
              refine V_ald0 dX6_readPart_49 ?_
              refine V_getI fd_X6_100 dX6_readPart_50 (by assumption) rfl ?_
              rw [xSpt_4]
              refine V_if_ne (tgt := 57) dX6_readPart_53 (by decide) (fun h53 => ?_) (fun h53 => ?_)
              · refine V_ild1 dX6_readPart_57 ?_
                refine V_bipush (v := 103) dX6_readPart_58 (by decide) ?_
                refine V_icmp_ne (tgt := 95) dX6_readPart_60 (by decide) (fun h60 => ?_) (fun h60 => ?_)
                · refine V_ald0 dX6_readPart_95 ?_
                  refine V_ild1 dX6_readPart_96 ?_
                  refine V_bipush (v := 112) dX6_readPart_97 (by decide) ?_
                  refine V_icmp_ne (tgt := 106) dX6_readPart_99 (by decide) (fun h99 => ?_) (fun h99 => ?_)
                  · refine V_iconst (v := 0) dX6_readPart_106 (by decide) ?_
                    refine V_ild1 dX6_readPart_107 ?_
                    refine V_bipush (v := 116) dX6_readPart_108 (by decide) ?_
                    refine V_icmp_ne (tgt := 118) dX6_readPart_110 (by decide) (fun h110 => ?_) (fun h110 => ?_)
                    · refine V_ild1 dX6_readPart_118 ?_
                      refine V_bipush (v := 119) dX6_readPart_119 (by decide) ?_
                      refine V_icmp_ne (tgt := 129) dX6_readPart_121 (by decide) (fun h121 => ?_) (fun h121 => ?_)
                      · exact absurd rfl h121
                      · refine V_bipush (v := 20) dX6_readPart_124 (by decide) ?_
                        refine V_goto (tgt := 131) dX6_readPart_126 (by decide) ?_
                        refine V_cv2R lk_X6_114 cc_X6_two dX6_readPart_131 (by assumption) (k1) ft_X6_readPart_X6_two rfl rfl (Nat.le_of_ble_eq_true rfl) ?_
                        refine V_ist2 dX6_readPart_134 rfl (by decide) ?_
                        refine V_ild1 dX6_readPart_135 ?_
                        refine V_bipush (v := 100) dX6_readPart_136 (by decide) ?_
                        refine V_icmp_ne (tgt := 151) dX6_readPart_138 (by decide) (fun h138 => ?_) (fun h138 => ?_)
                        · refine V_iconst (v := 0) dX6_readPart_151 (by decide) ?_
                          refine V_ist3 dX6_readPart_152 rfl (by decide) ?_
                          refine V_ald0 dX6_readPart_153 ?_
                          refine V_getI fd_X6_100 dX6_readPart_154 (by assumption) rfl ?_
                          rw [xSpt_4]
                          refine V_if_ne (tgt := 161) dX6_readPart_157 (by decide) (fun h157 => ?_) (fun h157 => ?_)
                          · refine V_ild1 dX6_readPart_161 ?_
                            refine V_bipush (v := 100) dX6_readPart_162 (by decide) ?_
                            refine V_icmp_ne (tgt := 180) dX6_readPart_164 (by decide) (fun h164 => ?_) (fun h164 => ?_)
                            · refine V_ild1 dX6_readPart_180 ?_
                              refine V_bipush (v := 112) dX6_readPart_181 (by decide) ?_
                              refine V_icmp_ne (tgt := 197) dX6_readPart_183 (by decide) (fun h183 => ?_) (fun h183 => ?_)
                              · refine V_ald0 dX6_readPart_197 ?_
                                refine V_getR fd_X6_13 dX6_readPart_198 (by assumption) (by assumption) rfl ?_
                                refine V_iconst (v := 1) dX6_readPart_201 (by decide) ?_
                                refine V_ild1 dX6_readPart_202 ?_
                                refine V_bipush (v := 116) dX6_readPart_203 (by decide) ?_
                                refine V_icmp_ne (tgt := 212) dX6_readPart_205 (by decide) (fun h205 => ?_) (fun h205 => ?_)
                                · refine V_iconst (v := 1) dX6_readPart_212 (by decide) ?_
                                  refine V_iadd dX6_readPart_213 ?_
                                  refine V_ild2 dX6_readPart_214 ?_
                                  refine V_iast (j := 2) dX6_readPart_215 (by assumption) (by decide) (by omega) ?_
                                  exact V_vret rfl dX6_readPart_216 (by decide) (by decide) ⟨rfl, by rw [xup_r, o2]⟩
                                · exact absurd h205 (by decide)
                              · exact absurd h183 (by decide)
                            · exact absurd h164 (by decide)
                          · exact absurd h157 (by decide)
                        · exact absurd h138 (by decide)
                    · exact absurd h110 (by decide)
                  · exact absurd h99 (by decide)
                · exact absurd h60 (by decide)
              · exact absurd h53 (by decide)
            · exact absurd rfl h32
    · have k9 : kErrN g (a + 1) 2 0 20 = nI e := k9
      have q1 : rTw g (true, a + 1) 0 20 = (false, e) := q1
      rw [kp, if_neg (by rw [k9]; exact nI_m9 (by omega)), k9, nI_clamp (by omega)]
      have k1 := kt (true, a + 1) 0 20 (by show a + 1 < 900; omega)
      rw [q1] at k1
      refine V_ald0 dX6_readPart_0 ?_
      refine V_getR fd_X6_7 dX6_readPart_1 (by assumption) (by assumption) rfl ?_
      refine V_ald0 dX6_readPart_4 ?_
      refine V_getI fd_X6_97 dX6_readPart_5 (by assumption) rfl ?_
      refine V_iald (j := a) dX6_readPart_8 (by assumption) h3 (by omega) ?_
      rw [el, c]
      refine V_ist1 dX6_readPart_9 rfl (by decide) ?_
      refine V_ald0 dX6_readPart_10 ?_
      refine V_ild1 dX6_readPart_11 ?_
      refine V_bipush (v := 100) dX6_readPart_12 (by decide) ?_
      refine V_icmp_eq (tgt := 41) dX6_readPart_14 (by decide) (fun h14 => ?_) (fun h14 => ?_)
      · exact absurd h14 (by decide)
      · refine V_ild1 dX6_readPart_17 ?_
        refine V_bipush (v := 112) dX6_readPart_18 (by decide) ?_
        refine V_icmp_eq (tgt := 41) dX6_readPart_20 (by decide) (fun h20 => ?_) (fun h20 => ?_)
        · exact absurd h20 (by decide)
        · refine V_ild1 dX6_readPart_23 ?_
          refine V_bipush (v := 116) dX6_readPart_24 (by decide) ?_
          refine V_icmp_eq (tgt := 41) dX6_readPart_26 (by decide) (fun h26 => ?_) (fun h26 => ?_)
          · exact absurd h26 (by decide)
          · refine V_ild1 dX6_readPart_29 ?_
            refine V_bipush (v := 119) dX6_readPart_30 (by decide) ?_
            refine V_icmp_eq (tgt := 41) dX6_readPart_32 (by decide) (fun h32 => ?_) (fun h32 => ?_)
            · refine V_iconst (v := 1) dX6_readPart_41 (by decide) ?_
              refine V_goto (tgt := 46) dX6_readPart_42 (by decide) ?_
              refine V_cv1U lk_X6_106 cc_X6_accept dX6_readPart_46 (by assumption) (ka) ft_X6_readPart_X6_accept rfl rfl (Nat.le_of_ble_eq_true rfl) ?_
              refine V_ald0 dX6_readPart_49 ?_
              refine V_getI fd_X6_100 dX6_readPart_50 (by assumption) rfl ?_
              rw [xSpt_4]
              refine V_if_ne (tgt := 57) dX6_readPart_53 (by decide) (fun h53 => ?_) (fun h53 => ?_)
              · refine V_ild1 dX6_readPart_57 ?_
                refine V_bipush (v := 103) dX6_readPart_58 (by decide) ?_
                refine V_icmp_ne (tgt := 95) dX6_readPart_60 (by decide) (fun h60 => ?_) (fun h60 => ?_)
                · refine V_ald0 dX6_readPart_95 ?_
                  refine V_ild1 dX6_readPart_96 ?_
                  refine V_bipush (v := 112) dX6_readPart_97 (by decide) ?_
                  refine V_icmp_ne (tgt := 106) dX6_readPart_99 (by decide) (fun h99 => ?_) (fun h99 => ?_)
                  · refine V_iconst (v := 0) dX6_readPart_106 (by decide) ?_
                    refine V_ild1 dX6_readPart_107 ?_
                    refine V_bipush (v := 116) dX6_readPart_108 (by decide) ?_
                    refine V_icmp_ne (tgt := 118) dX6_readPart_110 (by decide) (fun h110 => ?_) (fun h110 => ?_)
                    · refine V_ild1 dX6_readPart_118 ?_
                      refine V_bipush (v := 119) dX6_readPart_119 (by decide) ?_
                      refine V_icmp_ne (tgt := 129) dX6_readPart_121 (by decide) (fun h121 => ?_) (fun h121 => ?_)
                      · exact absurd rfl h121
                      · refine V_bipush (v := 20) dX6_readPart_124 (by decide) ?_
                        refine V_goto (tgt := 131) dX6_readPart_126 (by decide) ?_
                        refine V_cv2R lk_X6_114 cc_X6_two dX6_readPart_131 (by assumption) (k1) ft_X6_readPart_X6_two rfl rfl (Nat.le_of_ble_eq_true rfl) ?_
                        refine V_ist2 dX6_readPart_134 rfl (by decide) ?_
                        refine V_ild1 dX6_readPart_135 ?_
                        refine V_bipush (v := 100) dX6_readPart_136 (by decide) ?_
                        refine V_icmp_ne (tgt := 151) dX6_readPart_138 (by decide) (fun h138 => ?_) (fun h138 => ?_)
                        · refine V_iconst (v := 0) dX6_readPart_151 (by decide) ?_
                          refine V_ist3 dX6_readPart_152 rfl (by decide) ?_
                          refine V_ald0 dX6_readPart_153 ?_
                          refine V_getI fd_X6_100 dX6_readPart_154 (by assumption) rfl ?_
                          rw [xSpt_4]
                          refine V_if_ne (tgt := 161) dX6_readPart_157 (by decide) (fun h157 => ?_) (fun h157 => ?_)
                          · exact absurd rfl h157
                          · exact V_vret rfl dX6_readPart_160 (by decide) (by decide) ⟨rfl, rfl⟩
                        · exact absurd h138 (by decide)
                    · exact absurd h110 (by decide)
                  · exact absurd h99 (by decide)
                · exact absurd h60 (by decide)
              · exact absurd h53 (by decide)
            · exact absurd rfl h32
  have kp : kErrP g a = nI a := by unfold kErrP; rw [if_neg c, if_neg c2, if_neg c3, if_neg c4, if_neg c5]
  rw [kp, if_neg (nI_m9 (by omega)), nI_clamp (by omega)]
  refine V_ald0 dX6_readPart_0 ?_
  refine V_getR fd_X6_7 dX6_readPart_1 (by assumption) (by assumption) rfl ?_
  refine V_ald0 dX6_readPart_4 ?_
  refine V_getI fd_X6_97 dX6_readPart_5 (by assumption) rfl ?_
  refine V_iald (j := a) dX6_readPart_8 (by assumption) h3 (by omega) ?_
  rw [el]
  refine V_ist1 dX6_readPart_9 rfl (by decide) ?_
  refine V_ald0 dX6_readPart_10 ?_
  refine V_ild1 dX6_readPart_11 ?_
  refine V_bipush (v := 100) dX6_readPart_12 (by decide) ?_
  refine V_icmp_eq (tgt := 41) dX6_readPart_14 (by decide) (fun h14 => ?_) (fun h14 => ?_)
  · exact absurd h14 c
  · refine V_ild1 dX6_readPart_17 ?_
    refine V_bipush (v := 112) dX6_readPart_18 (by decide) ?_
    refine V_icmp_eq (tgt := 41) dX6_readPart_20 (by decide) (fun h20 => ?_) (fun h20 => ?_)
    · exact absurd h20 c3
    · refine V_ild1 dX6_readPart_23 ?_
      refine V_bipush (v := 116) dX6_readPart_24 (by decide) ?_
      refine V_icmp_eq (tgt := 41) dX6_readPart_26 (by decide) (fun h26 => ?_) (fun h26 => ?_)
      · exact absurd h26 c4
      · refine V_ild1 dX6_readPart_29 ?_
        refine V_bipush (v := 119) dX6_readPart_30 (by decide) ?_
        refine V_icmp_eq (tgt := 41) dX6_readPart_32 (by decide) (fun h32 => ?_) (fun h32 => ?_)
        · exact absurd h32 c5
        · refine V_ild1 dX6_readPart_35 ?_
          refine V_bipush (v := 103) dX6_readPart_36 (by decide) ?_
          refine V_icmp_ne (tgt := 45) dX6_readPart_38 (by decide) (fun h38 => ?_) (fun h38 => ?_)
          · refine V_iconst (v := 0) dX6_readPart_45 (by decide) ?_
            refine V_cv1U lk_X6_106 cc_X6_accept dX6_readPart_46 (by assumption) (kn) ft_X6_readPart_X6_accept rfl rfl (Nat.le_of_ble_eq_true rfl) ?_
            refine V_ald0 dX6_readPart_49 ?_
            refine V_getI fd_X6_100 dX6_readPart_50 (by assumption) rfl ?_
            rw [xSpt_4]
            refine V_if_ne (tgt := 57) dX6_readPart_53 (by decide) (fun h53 => ?_) (fun h53 => ?_)
            · exact absurd rfl h53
            · exact V_vret rfl dX6_readPart_56 (by decide) (by decide) ⟨rfl, rfl⟩
          · exact absurd h38 c2
theorem c_X6_readText (h : rM n K G m) (hc : MRel M m S) : Con E l Y_X6_readText [.ref m] (x, n, K, G, M, L)
    (fun r q' => r = some (.int (kFirst (kSg S.2.1 S.1) S.1)) ∧ ∃ M', q' = (x, n, K, G, M', L) ∧ (∀ k, k ≠ m → k ≠ m + 2 → M' k = M k) ∧ (∀ i, i ≠ 3 → i ≠ 4 → M' m i = M m i) ∧ Sh (M' (m + 2)) ∧ (kFirst (kSg S.2.1 S.1) S.1 = -9 → M' (m + 2) = rLoad (kSg S.2.1 S.1) S.1 100 1 rCln)) xF := by
  have hm := h
  obtain ⟨h0, g1, h1, g5, hr, -⟩ := h
  obtain ⟨a2, l100⟩ := hc.1
  have sR := hc.2.2.2.1.2.1
  have eg : kSg (M (m + 1)) S.1 = kSg S.2.1 S.1 := kSg_eq hc.2.1
  generalize hlen : S.1 = len at *
  generalize hgg : kSg S.2.1 len = g at *
  generalize hP : (fun (r : Option Value) (q' : xS) => r = some (.int (kFirst g len)) ∧ ∃ M', q' = (x, n, K, G, M', L) ∧ (∀ k, k ≠ m → k ≠ m + 2 → M' k = M k) ∧ (∀ i, i ≠ 3 → i ≠ 4 → M' m i = M m i) ∧ Sh (M' (m + 2)) ∧ (kFirst g len = -9 → M' (m + 2) = rLoad g len 100 1 rCln)) = P
  have good : ∀ (M1 : xMem), kFirst g len = -9 → M1 m 4 = 1 → (∀ k, k ≠ m → k ≠ m + 2 → M1 k = M k) → (∀ i, i ≠ 3 → i ≠ 4 → M1 m i = M m i) → Sh (M1 (m + 2)) → M1 (m + 2) = rLoad g len 100 1 rCln →
      V E l Y_X6_readText (xQm E Y_X6_readText P xF) (x, n, K, G, M1, L) (0, 0) 52 [some (.ref m)] [] := by
    intro M1 k9 i4 i1 i2 i3 i5
    refine V_ald0 dX6_readText_52 ?_
    refine V_getI fd_X6_100 dX6_readText_53 (by assumption) rfl ?_
    refine V_if_eq (tgt := 64) dX6_readText_56 (by decide) (fun h56 => ?_) (fun h56 => ?_)
    · exact absurd (i4.symm.trans h56) (by decide)
    · refine V_bipush (v := (-9)) dX6_readText_59 (by decide) ?_
      refine V_goto (tgt := 68) dX6_readText_61 (by decide) ?_
      exact V_iret rfl dX6_readText_68 (by decide) (by decide) (by rw [← hP]; exact ⟨by rw [k9], M1, rfl, i1, i2, i3, fun _ => i5⟩)
  have bad : ∀ (M1 : xMem) (e : Nat), e < 1000 → kFirst g len = nI e → M1 m 4 = 0 → M1 m 3 = nI e → (∀ k, k ≠ m → k ≠ m + 2 → M1 k = M k) → (∀ i, i ≠ 3 → i ≠ 4 → M1 m i = M m i) → Sh (M1 (m + 2)) →
      V E l Y_X6_readText (xQm E Y_X6_readText P xF) (x, n, K, G, M1, L) (0, 0) 27 [some (.ref m)] [] := by
    intro M1 e e1 k9 i4 i5 i1 i2 i3
    refine V_ald0 dX6_readText_27 ?_
    refine V_getI fd_X6_100 dX6_readText_28 (by assumption) rfl ?_
    refine V_if_eq (tgt := 52) dX6_readText_31 (by decide) (fun h31 => ?_) (fun h31 => ?_)
    · refine V_ald0 dX6_readText_52 ?_
      refine V_getI fd_X6_100 dX6_readText_53 (by assumption) rfl ?_
      refine V_if_eq (tgt := 64) dX6_readText_56 (by decide) (fun h56 => ?_) (fun h56 => ?_)
      · refine V_ald0 dX6_readText_64 ?_
        refine V_getI fd_X6_97 dX6_readText_65 (by assumption) rfl ?_
        exact V_iret rfl dX6_readText_68 (by decide) (by decide) (by rw [← hP]; exact ⟨by rw [k9, i5], M1, rfl, i1, i2, i3, fun q => absurd (k9.symm.trans q) (nI_m9 (by omega))⟩)
      · exact absurd i4 h56
    · exact absurd i4 h31
  have loop : ∀ (d k a : Nat) (M1 : xMem), k + d = 100 → a ≤ 5 * k + 1 → 2 * k + 1 ≤ a → M1 m 4 = 1 → M1 m 3 = nI a → (∀ k, k ≠ m → k ≠ m + 2 → M1 k = M k) → (∀ i, i ≠ 3 → i ≠ 4 → M1 m i = M m i) → Sh (M1 (m + 2)) → WFr (M1 (m + 2)) (99 * k) (216000 * k) →
      kFirst g len = kFiE g len d a → rLoad g len 100 1 rCln = rLoad g len d a (M1 (m + 2)) → V E l Y_X6_readText (xQm E Y_X6_readText P xF) (x, n, K, G, M1, L) (0, 0) 27 [some (.ref m)] [] := by
    intro d
    induction d with
    | zero =>
      intro k a M1 hk u1 u2 i4 i5 i1 i2 i3 w1 f1 r1
      have e2 : M1 m 2 = nI len := by rw [i2 2 (by decide) (by decide)]; exact a2
      refine V_ald0 dX6_readText_27 ?_
      refine V_getI fd_X6_100 dX6_readText_28 (by assumption) rfl ?_
      refine V_if_eq (tgt := 52) dX6_readText_31 (by decide) (fun h31 => ?_) (fun h31 => ?_)
      · exact absurd (i4.symm.trans h31) (by decide)
      · refine V_ald0 dX6_readText_34 ?_
        refine V_getI fd_X6_97 dX6_readText_35 (by assumption) rfl ?_
        refine V_ald0 dX6_readText_38 ?_
        refine V_getI fd_X6_90 dX6_readText_39 (by assumption) rfl ?_
        refine V_icmp_ge (tgt := 52) dX6_readText_42 (by decide) (fun h42 => ?_) (fun h42 => ?_)
        · exact good M1 (f1.trans rfl) i4 i1 i2 i3 r1.symm
        · exact absurd h42 (by rw [i5, e2]; exact nI_nlt (by omega) (by omega))
    | succ d ih =>
      intro k a M1 hk u1 u2 i4 i5 i1 i2 i3 w1 f1 r1
      have e2 : M1 m 2 = nI len := by rw [i2 2 (by decide) (by decide)]; exact a2
      have ea : nI a < nI len ↔ a < len := nI_ltI (by omega) (by omega)
      have eg1 : kSg (M1 (m + 1)) len = g := by rw [i1 (m + 1) (by omega) (by omega)]; exact eg
      by_cases c : a < len
      · have rp := c_X6_readPart (E := E) (l := l) (x := x) (L := L) hm i5 i4 e2 l100 c w1
        rw [eg1] at rp
        have pl := kPaL_le g a
        have pl2 : 2 ≤ kPaL g a := by unfold kPaL; split <;> (try split) <;> omega
        by_cases k9 : kErrP g a = -9
        · rw [if_pos k9] at rp
          refine V_ald0 dX6_readText_27 ?_
          refine V_getI fd_X6_100 dX6_readText_28 (by assumption) rfl ?_
          refine V_if_eq (tgt := 52) dX6_readText_31 (by decide) (fun h31 => ?_) (fun h31 => ?_)
          · exact absurd (i4.symm.trans h31) (by decide)
          · refine V_ald0 dX6_readText_34 ?_
            refine V_getI fd_X6_97 dX6_readText_35 (by assumption) rfl ?_
            refine V_ald0 dX6_readText_38 ?_
            refine V_getI fd_X6_90 dX6_readText_39 (by assumption) rfl ?_
            refine V_icmp_ge (tgt := 52) dX6_readText_42 (by decide) (fun h42 => ?_) (fun h42 => ?_)
            · exact absurd (by rw [i5, e2]; exact ea.mpr c) h42
            · refine V_ald0 dX6_readText_45 ?_
              refine V_cv0U lk_X6_124 cc_X6_readPart dX6_readText_46 (by assumption) (rp) ft_X6_readText_X6_readPart rfl rfl (Nat.le_of_ble_eq_true rfl) ?_
              refine V_goto (tgt := 27) dX6_readText_49 (by decide) ?_
              refine ih (k + 1) (a + kPaL g a) _ (by omega) (by omega) (by omega) ?_ ?_ ?_ ?_ ?_ ?_ ?_ ?_
              · rw [xro_n (by omega)]; exact xSpt_4
              · rw [xro_n (by omega)]; exact xSpt_3
              · exact fun j q1 q2 => by rw [xro_n q2, xSpt_o q1]; exact i1 j q1 q2
              · exact fun i q1 q2 => by rw [xro_n (by omega), xSpt_i q1 q2]; exact i2 i q1 q2
              · rw [xro_s]; exact i3.part w1
              · rw [xro_s]; exact (w1.part k9 (by omega) (by omega) (by omega)).mono (by omega) (by omega)
              · rw [f1, kFiE, if_pos c, if_pos k9]
              · rw [r1, xro_s, rLoad, if_pos c]
        · rw [if_neg k9] at rp
          have ex : ∃ e, e < 1000 ∧ kErrP g a = nI e := kErrP_n (by omega) k9
          obtain ⟨e, e1, ke⟩ := ex
          rw [ke, nI_clamp (by omega)] at rp
          refine V_ald0 dX6_readText_27 ?_
          refine V_getI fd_X6_100 dX6_readText_28 (by assumption) rfl ?_
          refine V_if_eq (tgt := 52) dX6_readText_31 (by decide) (fun h31 => ?_) (fun h31 => ?_)
          · exact absurd (i4.symm.trans h31) (by decide)
          · refine V_ald0 dX6_readText_34 ?_
            refine V_getI fd_X6_97 dX6_readText_35 (by assumption) rfl ?_
            refine V_ald0 dX6_readText_38 ?_
            refine V_getI fd_X6_90 dX6_readText_39 (by assumption) rfl ?_
            refine V_icmp_ge (tgt := 52) dX6_readText_42 (by decide) (fun h42 => ?_) (fun h42 => ?_)
            · exact absurd (by rw [i5, e2]; exact ea.mpr c) h42
            · refine V_ald0 dX6_readText_45 ?_
              refine V_cv0U lk_X6_124 cc_X6_readPart dX6_readText_46 (by assumption) (rp) ft_X6_readText_X6_readPart rfl rfl (Nat.le_of_ble_eq_true rfl) ?_
              refine V_goto (tgt := 27) dX6_readText_49 (by decide) ?_
              refine bad _ e e1 ?_ xSpt_4 xSpt_3 ?_ ?_ ?_
              · rw [f1, kFiE, if_pos c, if_neg k9, ke]
              · exact fun j q1 q2 => by rw [xSpt_o q1]; exact i1 j q1 q2
              · exact fun i q1 q2 => by rw [xSpt_i q1 q2]; exact i2 i q1 q2
              · rw [xSpt_o (by omega)]; exact i3
      · refine V_ald0 dX6_readText_27 ?_
        refine V_getI fd_X6_100 dX6_readText_28 (by assumption) rfl ?_
        refine V_if_eq (tgt := 52) dX6_readText_31 (by decide) (fun h31 => ?_) (fun h31 => ?_)
        · exact absurd (i4.symm.trans h31) (by decide)
        · refine V_ald0 dX6_readText_34 ?_
          refine V_getI fd_X6_97 dX6_readText_35 (by assumption) rfl ?_
          refine V_ald0 dX6_readText_38 ?_
          refine V_getI fd_X6_90 dX6_readText_39 (by assumption) rfl ?_
          refine V_icmp_ge (tgt := 52) dX6_readText_42 (by decide) (fun h42 => ?_) (fun h42 => ?_)
          · exact good M1 (by rw [f1, kFiE, if_neg c]) i4 i1 i2 i3 (by rw [r1, rLoad, if_neg c])
          · exact absurd (by rw [i5, e2] at h42; exact ea.mp h42) c
  refine Con.mk 0 mp_X6_readText rfl (ls := [some (.ref m)]) rfl (Nat.le_of_ble_eq_true rfl) ?_
  have sp0 : xup (xup M m 3 0) m 4 1 (m + 2) = M (m + 2) := by funext z; rw [xup_k (by omega), xup_k (by omega)]
  have spA : ∀ (k : Nat), k ≠ m → xup (xup M m 3 0) m 4 1 k = M k := fun k q => by funext z; rw [xup_k q, xup_k q]
  generalize hM0 : xup (xup M m 3 0) m 4 1 = M0 at *
  have m4 : M0 m 4 = 1 := by rw [← hM0, xup_s]
  have m3 : M0 m 3 = nI 0 := by rw [← hM0, xup_i (by decide), xup_s]; rfl
  have mi : ∀ i, i ≠ 3 → i ≠ 4 → M0 m i = M m i := fun i q1 q2 => by rw [← hM0, xup_i q2, xup_i q1]
  have n3 : xro M0 (m + 2) rCln m 3 = nI 0 := by rw [xro_n (by omega)]; exact m3
  have n4 : xro M0 (m + 2) rCln m 4 = bB true := by rw [xro_n (by omega)]; exact m4
  have n2 : xro M0 (m + 2) rCln m 2 = nI len := by rw [xro_n (by omega), mi 2 (by decide) (by decide)]; exact a2
  have nx := c_X6_isNext (E := E) (l := l) (x := x) (L := L) hm n3 n2 l100 (by decide) (c := 80) (by decide)
  rw [xro_n (show m + 1 ≠ m + 2 by omega), spA (m + 1) (by omega), eg] at nx
  by_cases c : g 0 = 80
  · have ac : Con E l Y_X6_accept [.ref m, .int 1] (x, n, K, G, xro M0 (m + 2) rCln, L) (xR none (x, n, K, G, xSpt (xro M0 (m + 2) rCln) m true 1, L)) xF := c_X6_accept h0 n3 n4 true
    rw [bIt c] at nx
    refine V_ald0 dX6_readText_0 ?_
    refine V_iconst (v := 0) dX6_readText_1 (by decide) ?_
    refine V_putI fw_X6_97 dX6_readText_2 (by assumption) rfl ?_
    refine V_ald0 dX6_readText_5 ?_
    refine V_iconst (v := 1) dX6_readText_6 (by decide) ?_
    refine V_putZ fw_X6_100 dX6_readText_7 (by assumption) (Or.inr rfl) rfl ?_
    refine V_ald0 dX6_readText_10 ?_
    rw [hM0]
    refine V_getR fd_X6_13 dX6_readText_11 (by assumption) (by assumption) rfl ?_
    refine V_cs1U lk_X6_32 cc_X6_clean dX6_readText_14 (c_X6_clean hr) ft_X6_readText_X6_clean rfl rfl (Nat.le_of_ble_eq_true rfl) ?_
    rw [spA (m + 2) (by omega), rCl_sh sR]
    refine V_ald0 dX6_readText_17 ?_
    refine V_ald0 dX6_readText_18 ?_
    refine V_bipush (v := 80) dX6_readText_19 (by decide) ?_
    refine V_cv1R lk_X6_121 cc_X6_isNext dX6_readText_21 (by assumption) (nx) ft_X6_readText_X6_isNext rfl rfl (Nat.le_of_ble_eq_true rfl) ?_
    refine V_cv1U lk_X6_106 cc_X6_accept dX6_readText_24 (by assumption) (ac) ft_X6_readText_X6_accept rfl rfl (Nat.le_of_ble_eq_true rfl) ?_
    refine loop 100 0 1 _ (by omega) (by omega) (by omega) xSpt_4 xSpt_3 ?_ ?_ ?_ ?_ ?_ ?_
    · exact fun j q1 q2 => by rw [xSpt_o q1, xro_n q2]; exact spA j q1
    · exact fun i q1 q2 => by rw [xSpt_i q1 q2, xro_n (by omega)]; exact mi i q1 q2
    · rw [xSpt_o (by omega), xro_s]; exact Sh.cln
    · rw [xSpt_o (by omega), xro_s]; exact WFr.cln
    · unfold kFirst; rw [if_pos c]
    · rw [xSpt_o (by omega), xro_s]
  · have ac : Con E l Y_X6_accept [.ref m, .int 0] (x, n, K, G, xro M0 (m + 2) rCln, L) (xR none (x, n, K, G, xSpt (xro M0 (m + 2) rCln) m false 0, L)) xF := c_X6_accept h0 n3 n4 false
    rw [bIf c] at nx
    refine V_ald0 dX6_readText_0 ?_
    refine V_iconst (v := 0) dX6_readText_1 (by decide) ?_
    refine V_putI fw_X6_97 dX6_readText_2 (by assumption) rfl ?_
    refine V_ald0 dX6_readText_5 ?_
    refine V_iconst (v := 1) dX6_readText_6 (by decide) ?_
    refine V_putZ fw_X6_100 dX6_readText_7 (by assumption) (Or.inr rfl) rfl ?_
    refine V_ald0 dX6_readText_10 ?_
    rw [hM0]
    refine V_getR fd_X6_13 dX6_readText_11 (by assumption) (by assumption) rfl ?_
    refine V_cs1U lk_X6_32 cc_X6_clean dX6_readText_14 (c_X6_clean hr) ft_X6_readText_X6_clean rfl rfl (Nat.le_of_ble_eq_true rfl) ?_
    rw [spA (m + 2) (by omega), rCl_sh sR]
    refine V_ald0 dX6_readText_17 ?_
    refine V_ald0 dX6_readText_18 ?_
    refine V_bipush (v := 80) dX6_readText_19 (by decide) ?_
    refine V_cv1R lk_X6_121 cc_X6_isNext dX6_readText_21 (by assumption) (nx) ft_X6_readText_X6_isNext rfl rfl (Nat.le_of_ble_eq_true rfl) ?_
    refine V_cv1U lk_X6_106 cc_X6_accept dX6_readText_24 (by assumption) (ac) ft_X6_readText_X6_accept rfl rfl (Nat.le_of_ble_eq_true rfl) ?_
    refine bad _ 0 (by decide) ?_ xSpt_4 xSpt_3 ?_ ?_ ?_
    · unfold kFirst; rw [if_neg c]; rfl
    · exact fun j q1 q2 => by rw [xSpt_o q1, xro_n q2]; exact spA j q1
    · exact fun i q1 q2 => by rw [xSpt_i q1 q2, xro_n (by omega)]; exact mi i q1 q2
    · rw [xSpt_o (by omega), xro_s]; exact Sh.cln
theorem MRel.rdt (hc : MRel M m S) {M' : xMem} (q1 : ∀ k, k ≠ m → k ≠ m + 2 → M' k = M k) (q2 : ∀ i, i ≠ 3 → i ≠ 4 → M' m i = M m i) (q3 : Sh (M' (m + 2))) : MRel M' m S := by
  obtain ⟨⟨a1, a2⟩, b, r, ⟨d1, d2, d3⟩, ⟨e1, e2⟩, f, g, i, j⟩ := hc
  unfold MRel
  rw [q1 (m + 1) (by omega) (by omega), q1 (m + 3) (by omega) (by omega), q1 (m + 4) (by omega) (by omega), q1 (m + 5) (by omega) (by omega), q1 (m + 6) (by omega) (by omega), q1 (m + 7) (by omega) (by omega), q2 2 (by decide) (by decide), q2 9 (by decide) (by decide)]
  exact ⟨⟨a1, a2⟩, b, r, ⟨d1, q3, d3⟩, ⟨e1, e2⟩, f, g, i, j⟩
theorem c_X6_errorPosition (h : rM n K G m) (hc : MRel M m S) : Con E l Y_X6_errorPosition [.ref m] (x, n, K, G, M, L) (xN 0 (kFirst (kSg S.2.1 S.1) S.1) S m x n K G M L) xF := by
  have hm := h
  obtain ⟨h0, -⟩ := h
  refine Con.mk 0 mp_X6_errorPosition rfl (ls := [some (.ref m)]) rfl (Nat.le_of_ble_eq_true rfl) ?_
  refine V_ald0 dX6_errorPosition_0 ?_
  refine V_iconst (v := 0) dX6_errorPosition_1 (by decide) ?_
  refine V_putI fw_X6_36 dX6_errorPosition_2 (by assumption) rfl ?_
  refine V_ald0 dX6_errorPosition_5 ?_
  refine V_cv0P lk_X6_127 cc_X6_readText dX6_errorPosition_6 (by assumption) (c_X6_readText hm (hc.ref 0)) ft_X6_errorPosition_X6_readText (Nat.le_of_ble_eq_true rfl) (fun o9 q9 hq9 => ?_)
  obtain ⟨rfl, M1, rfl, i1, i2, i3, -⟩ := hq9
  show V E l _ _ _ (0, 0) 9 _ [.int _]
  exact V_iret rfl dX6_errorPosition_9 (by decide) (by decide) ⟨_, _, rfl, fun _ => rfl, rfl, (hc.ref 0).rdt i1 i2 i3, by rw [i2 0 (by decide) (by decide), xup_s]; rfl, fun k hk => by rw [i1 k (by omega) (by omega)]; funext z; exact xup_k (by omega)⟩
theorem c_X6_load (h : rM n K G m) (hc : MRel M m S) : Con E l Y_X6_load [.ref m] (x, n, K, G, M, L)
    (xN (kdLoad S) (rDrops (sLoad S).2.2.1) (if kdLoad S = 0 then sLoad S else S) m x n K G M L) xF := by
  have hm := h
  obtain ⟨h0, g1, h1, g5, hr, g6, h3, -, -, -, -, -, -, g11, h7⟩ := h
  have kE : kdLoad S = if kFirst (kSg S.2.1 S.1) S.1 = -9 then 0 else 1 := rfl
  refine Con.mk 0 mp_X6_load rfl (ls := [some (.ref m)]) rfl (Nat.le_of_ble_eq_true rfl) ?_
  by_cases c : kFirst (kSg S.2.1 S.1) S.1 = -9
  · have kd : kdLoad S = 0 := by rw [kE, if_pos c]
    rw [kd, if_pos rfl]
    refine V_ald0 dX6_load_0 ?_
    refine V_ald0 dX6_load_1 ?_
    refine V_cv0P lk_X6_127 cc_X6_readText dX6_load_2 (by assumption) (c_X6_readText hm hc) ft_X6_load_X6_readText (Nat.le_of_ble_eq_true rfl) (fun o9 q9 hq9 => ?_)
    obtain ⟨rfl, M1, rfl, i1, i2, i3, i4⟩ := hq9
    have i4 := i4 c
    have mc := hc.rdt i1 i2 i3
    rw [i4] at i3
    show V E l _ _ _ (0, 0) 5 _ [.int _, .ref m]
    refine V_bipush (v := (-9)) dX6_load_5 (by decide) ?_
    refine V_icmp_ne (tgt := 14) dX6_load_7 (by decide) (fun h7_1 => ?_) (fun h7_1 => ?_)
    · exact absurd c h7_1
    · refine V_iconst (v := 0) dX6_load_10 (by decide) ?_
      refine V_goto (tgt := 15) dX6_load_11 (by decide) ?_
      refine V_cv1R lk_X6_93 cc_X6_refused dX6_load_15 (by assumption) (c_X6_refused h0 0) ft_X6_load_X6_refused rfl rfl (Nat.le_of_ble_eq_true rfl) ?_
      refine V_if_eq (tgt := 23) dX6_load_18 (by decide) (fun h18 => ?_) (fun h18 => ?_)
      · refine V_ald0 dX6_load_23 ?_
        refine V_getR fd_X6_13 dX6_load_24 (by assumption) (by assumption) rfl ?_
        refine V_iconst (v := 0) dX6_load_27 (by decide) ?_
        refine V_ald0 dX6_load_28 ?_
        refine V_getR fd_X6_16 dX6_load_29 (by assumption) (by assumption) rfl ?_
        refine V_iconst (v := 0) dX6_load_32 (by decide) ?_
        refine V_sipush (v := 191) dX6_load_33 (by decide) ?_
        refine V_cs5U lk_X6_49 cc_X6_copy dX6_load_36 (c_X6_copy hr h3 (s := 0) (d := 0) (m := 191) (by decide) (by decide) (Or.inl (by omega))) ft_X6_load_X6_copy rfl rfl (Nat.le_of_ble_eq_true rfl) ?_
        rw [show xup M1 m 0 0 (m + 3) = M1 (m + 3) from by funext z; exact xup_k (by omega), show xup M1 m 0 0 (m + 2) = M1 (m + 2) from by funext z; exact xup_k (by omega), i4, cpR_row (by rw [i1 (m + 3) (by omega) (by omega), hc.2.2.1]; exact hc.2.2.2.1.1) i3]
        refine V_ald0 dX6_load_39 ?_
        refine V_iconst (v := 0) dX6_load_40 (by decide) ?_
        refine V_putI fw_X6_46 dX6_load_41 (by assumption) rfl ?_
        refine V_ald0 dX6_load_44 ?_
        refine V_getR fd_X6_28 dX6_load_45 (by assumption) (by assumption) rfl ?_
        refine V_iconst (v := 0) dX6_load_48 (by decide) ?_
        refine V_iconst (v := 0) dX6_load_49 (by decide) ?_
        refine V_bast (j := 0) dX6_load_50 (by assumption) (by decide) (by decide) (Or.inl rfl) ?_
        refine V_ald0 dX6_load_51 ?_
        refine V_getR fd_X6_28 dX6_load_52 (by assumption) (by assumption) rfl ?_
        refine V_iconst (v := 1) dX6_load_55 (by decide) ?_
        refine V_iconst (v := 0) dX6_load_56 (by decide) ?_
        refine V_bast (j := 1) dX6_load_57 (by assumption) (by decide) (by decide) (Or.inl rfl) ?_
        refine V_ald0 dX6_load_58 ?_
        refine V_getR fd_X6_16 dX6_load_59 (by assumption) (by assumption) rfl ?_
        refine V_cs1R lk_X6_131 cc_X6_drops dX6_load_62 (c_X6_drops h3) ft_X6_load_X6_drops rfl rfl (Nat.le_of_ble_eq_true rfl) ?_
        exact V_iret rfl dX6_load_65 (by decide) (by decide) (by
  obtain ⟨⟨a1, a2⟩, b, r, ⟨d1, d2, d3⟩, ⟨e1, e2⟩, f, g, i, j⟩ := mc
  have hh : ∀ z, xup (xup (xup (xro (xup M1 m 0 0) (m + 3) (rLoad (kSg S.2.1 S.1) S.1 100 1 rCln)) m 9 0) (m + 7) 0 0) (m + 7) 1 0 (m + 3) z = rLoad (kSg S.2.1 S.1) S.1 100 1 rCln z := fun z => by rw [xup_k (by omega), xup_k (by omega), xup_k (by omega), xro_s]
  have oo : ∀ k, k ≠ m → k ≠ m + 3 → k ≠ m + 7 → xup (xup (xup (xro (xup M1 m 0 0) (m + 3) (rLoad (kSg S.2.1 S.1) S.1 100 1 rCln)) m 9 0) (m + 7) 0 0) (m + 7) 1 0 k = M1 k := fun k q1 q2 q3 => by funext z; rw [xup_k q3, xup_k q3, xup_k q1, xro_n q2, xup_k q1]
  refine ⟨_, _, rfl, fun _ => ?_, rfl, ⟨⟨?_, a2⟩, ?_, funext hh, ⟨i3, ?_, ?_⟩, ⟨?_, Nat.zero_le _⟩, fun z hz => absurd hz (Nat.not_lt_zero _), ?_, ?_, fun z hz q => absurd q Bool.false_ne_true⟩, ?_, fun k hk => ?_⟩
  · rw [show xup (xup (xup (xro (xup M1 m 0 0) (m + 3) (rLoad (kSg S.2.1 S.1) S.1 100 1 rCln)) m 9 0) (m + 7) 0 0) (m + 7) 1 0 (m + 3) = rLoad (kSg S.2.1 S.1) S.1 100 1 rCln from funext hh]; rfl
  · rw [xup_k (by omega), xup_k (by omega), xup_i (by decide), xro_n (by omega), xup_i (by decide)]; exact a1
  · rw [oo _ (by omega) (by omega) (by omega)]; exact b
  · rw [oo _ (by omega) (by omega) (by omega)]; exact d2
  · rw [oo _ (by omega) (by omega) (by omega)]; exact d3
  · rw [xup_k (by omega), xup_k (by omega), xup_s]; rfl
  · rw [xup_i (by decide), xup_s]; rfl
  · rw [xup_s]; rfl
  · rw [xup_k (by omega), xup_k (by omega), xup_i (by decide), xro_n (by omega), xup_s]; rfl
  · rw [oo _ (by omega) (by omega) (by omega)]; exact i1 k (by omega) (by omega))
      · exact absurd (by decide) h18
  · have kd : kdLoad S = 1 := by rw [kE, if_neg c]
    rw [kd, if_neg (by decide)]
    refine V_ald0 dX6_load_0 ?_
    refine V_ald0 dX6_load_1 ?_
    refine V_cv0P lk_X6_127 cc_X6_readText dX6_load_2 (by assumption) (c_X6_readText hm hc) ft_X6_load_X6_readText (Nat.le_of_ble_eq_true rfl) (fun o9 q9 hq9 => ?_)
    obtain ⟨rfl, M1, rfl, i1, i2, i3, i4⟩ := hq9
    have mc := hc.rdt i1 i2 i3
    show V E l _ _ _ (0, 0) 5 _ [.int _, .ref m]
    refine V_bipush (v := (-9)) dX6_load_5 (by decide) ?_
    refine V_icmp_ne (tgt := 14) dX6_load_7 (by decide) (fun h7_1 => ?_) (fun h7_1 => ?_)
    · refine V_iconst (v := 1) dX6_load_14 (by decide) ?_
      refine V_cv1R lk_X6_93 cc_X6_refused dX6_load_15 (by assumption) (c_X6_refused h0 1) ft_X6_load_X6_refused rfl rfl (Nat.le_of_ble_eq_true rfl) ?_
      refine V_if_eq (tgt := 23) dX6_load_18 (by decide) (fun h18 => ?_) (fun h18 => ?_)
      · exact absurd h18 (by decide)
      · refine V_iconst (v := 0) dX6_load_21 (by decide) ?_
        exact V_iret rfl dX6_load_22 (by decide) (by decide) ⟨_, _, rfl, fun q => absurd q (by decide), rfl, mc.ref 1, by rw [xup_s]; rfl, fun k hk => by rw [show xup M1 m 0 1 k = M1 k from by funext z; exact xup_k (by omega)]; exact i1 k (by omega) (by omega)⟩
    · exact absurd h7_1 c
end C69

/-! ===== the class: Text ===== -/
def rTx (n : Nat) (K : xKnd) (G : xRef) (t : Nat) : Prop := xIs n K t 4 2 ∧ G t 0 = some (t + 1) ∧ xIs n K (t + 1) 10 100
def iTx (M : xMem) (t len : Nat) : Prop := M t 1 = nI len ∧ len ≤ 100
/-- the sign at a place; -9 behind the end -/
def kSg (f : Nat → Int32) (len j : Nat) : Int32 := if j < len then f j else -9
def kErrGo (g : Nat → Int32) (a : Nat) (lo hi : Int32) : Nat → Nat → Int32 → Int32
  | 0, _, _ => -9
  | r + 1, i, fi =>
    if g (a + i) - 48 < 0 ∨ 9 < g (a + i) - 48 then nI (a + i)
    else if hi < fi + (g (a + i) - 48) * (if r = 0 then 1 else 10) ∨ fi + (g (a + i) - 48) * (if r = 0 then 1 else 10) + (if r = 0 then 1 else 10) - 1 < lo then nI (a + i)
    else kErrGo g a lo hi r (i + 1) (fi + (g (a + i) - 48) * (if r = 0 then 1 else 10))
def kErrN (g : Nat → Int32) (a m : Nat) (lo hi : Int32) : Int32 := kErrGo g a lo hi m 0 0
def kErrD (g : Nat → Int32) (a : Nat) : Int32 := if kErrN g a 2 0 99 = -9 then kErrN g (a + 2) 2 1 60 else kErrN g a 2 0 99
def kErrP (g : Nat → Int32) (a : Nat) : Int32 :=
  if g a = 100 then kErrD g (a + 1) else if g a = 103 then kErrN g (a + 1) 1 1 9 else if g a = 112 then kErrN g (a + 1) 2 1 99
  else if g a = 116 then kErrN g (a + 1) 2 0 40 else if g a = 119 then kErrN g (a + 1) 2 0 20 else nI a
def kPaL (g : Nat → Int32) (a : Nat) : Nat := if g a = 100 then 5 else if g a = 103 then 2 else 3
def kFiE (g : Nat → Int32) (len : Nat) : Nat → Nat → Int32
  | 0, _ => -9
  | d + 1, a => if a < len then (if kErrP g a = -9 then kFiE g len d (a + kPaL g a) else kErrP g a) else -9
def kFirst (g : Nat → Int32) (len : Nat) : Int32 := if g 0 = 80 then kFiE g len 100 1 else 0
section C24
variable {E : xEnv} {l : Launch} {x : Bool} {n : Nat} {K : xKnd} {G : xRef} {M : xMem} {L : xLng} {t len : Nat}
theorem c_X4_isFull (h : rTx n K G t) (hi : iTx M t len) : Con E l Y_X4_isFull [.ref t] (x, n, K, G, M, L) (xR (some (.int (bI (¬ len < 100)))) (x, n, K, G, M, L)) xF := by
  obtain ⟨h0, g1, h1⟩ := h
  obtain ⟨i1, i2⟩ := hi
  have e : nI len < nI 100 ↔ len < 100 := nI_ltI (by omega) (by decide)
  refine Con.mk 0 mp_X4_isFull rfl (ls := [some (.ref t)]) rfl (Nat.le_of_ble_eq_true rfl) ?_
  refine V_ald0 dX4_isFull_0 ?_
  refine V_getI fd_X4_15 dX4_isFull_1 (by assumption) rfl ?_
  refine V_ald0 dX4_isFull_4 ?_
  refine V_getR fd_X4_9 dX4_isFull_5 (by assumption) (by assumption) rfl ?_
  refine V_alen dX4_isFull_8 (by assumption) (by decide) (by decide) ?_
  refine V_icmp_lt (tgt := 16) dX4_isFull_9 (by decide) (fun h9 => ?_) (fun h9 => ?_)
  · refine V_iconst (v := 0) dX4_isFull_16 (by decide) ?_
    exact V_zret rfl dX4_isFull_17 (Or.inl rfl) (by decide) (by decide) ⟨by rw [i1, e] at h9; simp [bI, h9], rfl⟩
  · refine V_iconst (v := 1) dX4_isFull_12 (by decide) ?_
    refine V_goto (tgt := 17) dX4_isFull_13 (by decide) ?_
    exact V_zret rfl dX4_isFull_17 (Or.inr rfl) (by decide) (by decide) ⟨by rw [i1, e] at h9; simp [bI, h9], rfl⟩
theorem c_X4_add (h : rTx n K G t) (hi : iTx M t len) (c : Int32) (hl : len < 100) : Con E l Y_X4_add [.ref t, .int c] (x, n, K, G, M, L) (xR (some (.int (nI (len + 1)))) (x, n, K, G, xup (xup M (t + 1) len c) t 1 (nI (len + 1)), L)) xF := by
  have hr := h
  have hi0 := hi
  obtain ⟨h0, g1, h1⟩ := h
  obtain ⟨i1, i2⟩ := hi
  have e : xup M (t + 1) len c t 1 = nI len := by rw [xup_k (by omega), i1]
  refine Con.mk 0 mp_X4_add rfl (ls := [some (.ref t), some (.int c)]) rfl (Nat.le_of_ble_eq_true rfl) ?_
  refine V_ald0 dX4_add_0 ?_
  refine V_cv0R lk_X4_19 cc_X4_isFull dX4_add_1 (by assumption) (c_X4_isFull hr hi0) ft_X4_add_X4_isFull rfl rfl (Nat.le_of_ble_eq_true rfl) ?_
  refine V_if_ne (tgt := 27) dX4_add_4 (by decide) (fun h4 => ?_) (fun h4 => ?_)
  · exact absurd (bIf (by omega)) h4
  · refine V_ald0 dX4_add_7 ?_
    refine V_getR fd_X4_9 dX4_add_8 (by assumption) (by assumption) rfl ?_
    refine V_ald0 dX4_add_11 ?_
    refine V_getI fd_X4_15 dX4_add_12 (by assumption) rfl ?_
    refine V_ild1 dX4_add_15 ?_
    refine V_iast (j := len) dX4_add_16 (by assumption) i1 hl ?_
    refine V_ald0 dX4_add_17 ?_
    refine V_dup dX4_add_18 rfl ?_
    refine V_getI fd_X4_15 dX4_add_19 (by assumption) rfl ?_
    refine V_iconst (v := 1) dX4_add_22 (by decide) ?_
    refine V_iadd dX4_add_23 ?_
    rw [e, nI_1]
    refine V_putI fw_X4_15 dX4_add_24 (by assumption) rfl ?_
    refine V_ald0 dX4_add_27 ?_
    refine V_getI fd_X4_15 dX4_add_28 (by assumption) rfl ?_
    exact V_iret rfl dX4_add_31 (by decide) (by decide) ⟨by rw [xup_s], rfl⟩
theorem c_X4_wipe (h : rTx n K G t) : Con E l Y_X4_wipe [.ref t] (x, n, K, G, M, L) (xR (some (.int (M t 1))) (x, n, K, G, xup M t 1 0, L)) xF := by
  obtain ⟨h0, g1, h1⟩ := h
  refine Con.mk 1 mp_X4_wipe rfl (ls := [some (.ref t), none]) rfl (Nat.le_of_ble_eq_true rfl) ?_
  refine V_ald0 dX4_wipe_0 ?_
  refine V_getI fd_X4_15 dX4_wipe_1 (by assumption) rfl ?_
  refine V_ist1 dX4_wipe_4 rfl (by decide) ?_
  refine V_ald0 dX4_wipe_5 ?_
  refine V_iconst (v := 0) dX4_wipe_6 (by decide) ?_
  refine V_putI fw_X4_15 dX4_wipe_7 (by assumption) rfl ?_
  refine V_ild1 dX4_wipe_10 ?_
  exact V_iret rfl dX4_wipe_11 (by decide) (by decide) ⟨rfl, rfl⟩
theorem c_X4_signAt (h : rTx n K G t) (hi : iTx M t len) {j : Nat} (hj : j < 2 ^ 31) : Con E l Y_X4_signAt [.ref t, .int (nI j)] (x, n, K, G, M, L) (xR (some (.int (kSg (M (t + 1)) len j))) (x, n, K, G, M, L)) xF := by
  obtain ⟨h0, g1, h1⟩ := h
  obtain ⟨i1, i2⟩ := hi
  have e : nI j < nI len ↔ j < len := nI_ltI hj (by omega)
  refine Con.mk 0 mp_X4_signAt rfl (ls := [some (.ref t), some (.int (nI j))]) rfl (Nat.le_of_ble_eq_true rfl) ?_
  refine V_ild1 dX4_signAt_0 ?_
  refine V_if_lt (tgt := 21) dX4_signAt_1 (by decide) (fun q1 => ?_) (fun q1 => ?_)
  · exact absurd q1 (nI_pos hj)
  · refine V_ild1 dX4_signAt_4 ?_
    refine V_ald0 dX4_signAt_5 ?_
    refine V_getI fd_X4_15 dX4_signAt_6 (by assumption) rfl ?_
    refine V_icmp_ge (tgt := 21) dX4_signAt_9 (by decide) (fun h9 => ?_) (fun h9 => ?_)
    · refine V_bipush (v := (-9)) dX4_signAt_21 (by decide) ?_
      exact V_iret rfl dX4_signAt_23 (by decide) (by decide) ⟨by rw [i1, e] at h9; simp [kSg, h9], rfl⟩
    · refine V_ald0 dX4_signAt_12 ?_
      refine V_getR fd_X4_9 dX4_signAt_13 (by assumption) (by assumption) rfl ?_
      refine V_ild1 dX4_signAt_16 ?_
      refine V_iald (j := j) dX4_signAt_17 (by assumption) rfl (by rw [i1, e] at h9; omega) ?_
      refine V_goto (tgt := 23) dX4_signAt_18 (by decide) ?_
      exact V_iret rfl dX4_signAt_23 (by decide) (by decide) ⟨by rw [i1, e] at h9; simp [kSg, h9], rfl⟩
theorem c_X4_digitAt (h : rTx n K G t) (hi : iTx M t len) {j : Nat} (hj : j < 2 ^ 31) : Con E l Y_X4_digitAt [.ref t, .int (nI j)] (x, n, K, G, M, L) (xR (some (.int (kSg (M (t + 1)) len j - 48))) (x, n, K, G, M, L)) xF := by
  have hr := h
  obtain ⟨h0, g1, h1⟩ := h
  refine Con.mk 0 mp_X4_digitAt rfl (ls := [some (.ref t), some (.int (nI j))]) rfl (Nat.le_of_ble_eq_true rfl) ?_
  refine V_ald0 dX4_digitAt_0 ?_
  refine V_ild1 dX4_digitAt_1 ?_
  refine V_cv1R lk_X4_23 cc_X4_signAt dX4_digitAt_2 (by assumption) (c_X4_signAt hr hi hj) ft_X4_digitAt_X4_signAt rfl rfl (Nat.le_of_ble_eq_true rfl) ?_
  refine V_bipush (v := 48) dX4_digitAt_5 (by decide) ?_
  refine V_isub dX4_digitAt_7 ?_
  exact V_iret rfl dX4_digitAt_8 (by decide) (by decide) ⟨rfl, rfl⟩
theorem c_X4_numberAt (h : rTx n K G t) (hi : iTx M t len) {j : Nat} (hj : j < 1000) : Con E l Y_X4_numberAt [.ref t, .int (nI j)] (x, n, K, G, M, L) (xR (some (.int ((kSg (M (t + 1)) len j - 48) * 10 + (kSg (M (t + 1)) len (j + 1) - 48)))) (x, n, K, G, M, L)) xF := by
  have hr := h
  obtain ⟨h0, g1, h1⟩ := h
  refine Con.mk 0 mp_X4_numberAt rfl (ls := [some (.ref t), some (.int (nI j))]) rfl (Nat.le_of_ble_eq_true rfl) ?_
  refine V_ald0 dX4_numberAt_0 ?_
  refine V_ild1 dX4_numberAt_1 ?_
  refine V_cv1R lk_X4_27 cc_X4_digitAt dX4_numberAt_2 (by assumption) (c_X4_digitAt hr hi (by omega)) ft_X4_numberAt_X4_digitAt rfl rfl (Nat.le_of_ble_eq_true rfl) ?_
  refine V_bipush (v := 10) dX4_numberAt_5 (by decide) ?_
  refine V_imul dX4_numberAt_7 ?_
  refine V_ald0 dX4_numberAt_8 ?_
  refine V_ild1 dX4_numberAt_9 ?_
  refine V_iconst (v := 1) dX4_numberAt_10 (by decide) ?_
  refine V_iadd dX4_numberAt_11 ?_
  rw [nI_1]
  refine V_cv1R lk_X4_27 cc_X4_digitAt dX4_numberAt_12 (by assumption) (c_X4_digitAt hr hi (by omega)) ft_X4_numberAt_X4_digitAt rfl rfl (Nat.le_of_ble_eq_true rfl) ?_
  refine V_iadd dX4_numberAt_15 ?_
  exact V_iret rfl dX4_numberAt_16 (by decide) (by decide) ⟨rfl, rfl⟩
theorem c_X4_partLength (h : rTx n K G t) (hi : iTx M t len) {j : Nat} (hj : j < 2 ^ 31) : Con E l Y_X4_partLength [.ref t, .int (nI j)] (x, n, K, G, M, L) (xR (some (.int (nI (kPaL (kSg (M (t + 1)) len) j)))) (x, n, K, G, M, L)) xF := by
  have hr := h
  obtain ⟨h0, g1, h1⟩ := h
  refine Con.mk 0 mp_X4_partLength rfl (ls := [some (.ref t), some (.int (nI j))]) rfl (Nat.le_of_ble_eq_true rfl) ?_
  refine V_ald0 dX4_partLength_0 ?_
  refine V_ild1 dX4_partLength_1 ?_
  refine V_cv1R lk_X4_23 cc_X4_signAt dX4_partLength_2 (by assumption) (c_X4_signAt hr hi hj) ft_X4_partLength_X4_signAt rfl rfl (Nat.le_of_ble_eq_true rfl) ?_
  refine V_topi (fun y5 e5 => ?_)
  by_cases s5_100 : y5 = 100
  · subst s5_100
    refine V_lookup (tgt := 32) (off := 27) dX4_partLength_5 (by decide) (by decide) (by decide) ?_
    refine V_iconst (v := 5) dX4_partLength_32 (by decide) ?_
    exact V_iret rfl dX4_partLength_33 (by decide) (by decide) ⟨by simp [kPaL, ← e5]; rfl, rfl⟩
  by_cases s5_103 : y5 = 103
  · subst s5_103
    refine V_lookup (tgt := 34) (off := 29) dX4_partLength_5 (by decide) (by decide) (by decide) ?_
    refine V_iconst (v := 2) dX4_partLength_34 (by decide) ?_
    exact V_iret rfl dX4_partLength_35 (by decide) (by decide) ⟨by simp [kPaL, ← e5]; rfl, rfl⟩
  refine V_lookup (tgt := 36) (off := 31) dX4_partLength_5 (by decide) (by have q100 : y5.toInt ≠ 100 := xne s5_100; have q103 : y5.toInt ≠ 103 := xne s5_103; simp [Op.lookupswitch.offset, q100, Ne.symm q100, q103, Ne.symm q103]) (by decide) ?_
  refine V_iconst (v := 3) dX4_partLength_36 (by decide) ?_
  exact V_iret rfl dX4_partLength_37 (by decide) (by decide) ⟨by simp only [kPaL, ← e5, s5_100, s5_103, if_false]; rfl, rfl⟩
theorem c_X4_errorInNumber (h : rTx n K G t) (hi : iTx M t len) {a m : Nat} (ha : a < 1000) (hm : m < 1000) (lo hi9 : Int32) : Con E l Y_X4_errorInNumber [.ref t, .int (nI a), .int (nI m), .int lo, .int hi9] (x, n, K, G, M, L) (xR (some (.int (kErrN (kSg (M (t + 1)) len) a m lo hi9))) (x, n, K, G, M, L)) xF := by
  have hr := h
  obtain ⟨h0, g1, h1⟩ := h
  refine Con.mk 4 mp_X4_errorInNumber rfl (ls := [some (.ref t), some (.int (nI a)), some (.int (nI m)), some (.int lo), some (.int hi9), none, none, none, none]) rfl (Nat.le_of_ble_eq_true rfl) ?_
  unfold kErrN
  generalize hg : kSg (M (t + 1)) len = g
  have loop : ∀ (r i : Nat) (fi : Int32) (o1 o2 : Option Value), i + r = m → kErrGo g a lo hi9 m 0 0 = kErrGo g a lo hi9 r i fi → V E l Y_X4_errorInNumber (xQm E Y_X4_errorInNumber (xR (some (.int (kErrGo g a lo hi9 m 0 0))) (x, n, K, G, M, L)) xF) (x, n, K, G, M, L) (0, 0) 6 [some (.ref t), some (.int (nI a)), some (.int (nI m)), some (.int lo), some (.int hi9), some (.int fi), some (.int (nI i)), o1, o2] [] := by
    intro r
    induction r with
    | zero =>
      intro i fi o1 o2 hir he
      have e : i = m := by omega
      subst e
      refine V_ild6 dX4_errorInNumber_6 ?_
      refine V_ild2 dX4_errorInNumber_8 ?_
      refine V_icmp_ge (tgt := 93) dX4_errorInNumber_9 (by decide) (fun h9 => ?_) (fun h9 => ?_)
      · refine V_bipush (v := (-9)) dX4_errorInNumber_93 (by decide) ?_
        exact V_iret rfl dX4_errorInNumber_95 (by decide) (by decide) ⟨by rw [he]; rfl, rfl⟩
      · exact absurd h9 (nI_nlt (Nat.le_refl i) (by omega))
    | succ r ih =>
      intro i fi o1 o2 hir he
      have e2 : nI (i + 1) < nI m ↔ ¬ r = 0 := by rw [nI_ltI (by omega) (by omega)]; omega
      have key : ∀ sp : Int32, sp = (if r = 0 then 1 else 10) → ¬ (g (a + i) - 48 < 0 ∨ 9 < g (a + i) - 48) → V E l Y_X4_errorInNumber (xQm E Y_X4_errorInNumber (xR (some (.int (kErrGo g a lo hi9 m 0 0))) (x, n, K, G, M, L)) xF) (x, n, K, G, M, L) (0, 0) 52 [some (.ref t), some (.int (nI a)), some (.int (nI m)), some (.int lo), some (.int hi9), some (.int fi), some (.int (nI i)), some (.int (g (a + i) - 48)), o2] [.int sp] := by
        intro sp hsp hd
        refine V_ist8 dX4_errorInNumber_52 rfl (by decide) ?_
        refine V_ild5 dX4_errorInNumber_54 ?_
        refine V_ild7 dX4_errorInNumber_56 ?_
        refine V_ild8 dX4_errorInNumber_58 ?_
        refine V_imul dX4_errorInNumber_60 ?_
        refine V_iadd dX4_errorInNumber_61 ?_
        refine V_ist5 dX4_errorInNumber_62 rfl (by decide) ?_
        refine V_ild5 dX4_errorInNumber_64 ?_
        refine V_ild4 dX4_errorInNumber_66 ?_
        refine V_icmp_gt (tgt := 82) dX4_errorInNumber_68 (by decide) (fun h68 => ?_) (fun h68 => ?_)
        · refine V_ild1 dX4_errorInNumber_82 ?_
          refine V_ild6 dX4_errorInNumber_83 ?_
          refine V_iadd dX4_errorInNumber_85 ?_
          rw [nI_add]
          exact V_iret rfl dX4_errorInNumber_86 (by decide) (by decide) ⟨by rw [he]; simp only [kErrGo, ← hsp]; clear hsp; simp [*], rfl⟩
        · refine V_ild5 dX4_errorInNumber_71 ?_
          refine V_ild8 dX4_errorInNumber_73 ?_
          refine V_iadd dX4_errorInNumber_75 ?_
          refine V_iconst (v := 1) dX4_errorInNumber_76 (by decide) ?_
          refine V_isub dX4_errorInNumber_77 ?_
          refine V_ild3 dX4_errorInNumber_78 ?_
          refine V_icmp_ge (tgt := 87) dX4_errorInNumber_79 (by decide) (fun h79 => ?_) (fun h79 => ?_)
          · refine V_inc6 dX4_errorInNumber_87 rfl (nI_1 i) ?_
            refine V_goto (tgt := 6) dX4_errorInNumber_90 (by decide) ?_
            refine ih (i + 1) _ _ _ (by omega) ?_
            rw [he]; simp only [kErrGo, ← hsp]; clear hsp; simp [*]
          · refine V_ild1 dX4_errorInNumber_82 ?_
            refine V_ild6 dX4_errorInNumber_83 ?_
            refine V_iadd dX4_errorInNumber_85 ?_
            rw [nI_add]
            exact V_iret rfl dX4_errorInNumber_86 (by decide) (by decide) ⟨by rw [he]; simp only [kErrGo, ← hsp]; clear hsp; simp [*], rfl⟩
      refine V_ild6 dX4_errorInNumber_6 ?_
      refine V_ild2 dX4_errorInNumber_8 ?_
      refine V_icmp_ge (tgt := 93) dX4_errorInNumber_9 (by decide) (fun h9 => ?_) (fun h9 => ?_)
      · exact absurd (nI_lt (by omega) (by omega)) h9
      · refine V_ald0 dX4_errorInNumber_12 ?_
        refine V_ild1 dX4_errorInNumber_13 ?_
        refine V_ild6 dX4_errorInNumber_14 ?_
        refine V_iadd dX4_errorInNumber_16 ?_
        rw [nI_add]
        refine V_cv1R lk_X4_27 cc_X4_digitAt dX4_errorInNumber_17 (by assumption) (c_X4_digitAt hr hi (j := a + i) (by omega)) ft_X4_errorInNumber_X4_digitAt rfl rfl (Nat.le_of_ble_eq_true rfl) ?_
        rw [hg]
        refine V_ist7 dX4_errorInNumber_20 rfl (by decide) ?_
        refine V_ild7 dX4_errorInNumber_22 ?_
        refine V_iconst (v := 0) dX4_errorInNumber_24 (by decide) ?_
        refine V_bipush (v := 9) dX4_errorInNumber_25 (by decide) ?_
        refine V_cs3R lk_X4_53 cc_X5_isOutside dX4_errorInNumber_27 (c_X5_isOutside _ _ _) ft_X4_errorInNumber_X5_isOutside rfl rfl (Nat.le_of_ble_eq_true rfl) ?_
        refine V_if_eq (tgt := 38) dX4_errorInNumber_30 (by decide) (fun h30 => ?_) (fun h30 => ?_)
        · refine V_ild6 dX4_errorInNumber_38 ?_
          refine V_iconst (v := 1) dX4_errorInNumber_40 (by decide) ?_
          refine V_iadd dX4_errorInNumber_41 ?_
          refine V_ild2 dX4_errorInNumber_42 ?_
          refine V_icmp_ge (tgt := 51) dX4_errorInNumber_43 (by decide) (fun q43 => ?_) (fun q43 => ?_)
          · refine V_iconst (v := 1) dX4_errorInNumber_51 (by decide) ?_
            refine key _ ?_ (by simpa only [bI0] using h30)
            rw [nI_1, e2] at q43; simp [q43]
          · refine V_bipush (v := 10) dX4_errorInNumber_46 (by decide) ?_
            refine V_goto (tgt := 52) dX4_errorInNumber_48 (by decide) ?_
            refine key _ ?_ (by simpa only [bI0] using h30)
            rw [nI_1, e2] at q43; simp [q43]
        · refine V_ild1 dX4_errorInNumber_33 ?_
          refine V_ild6 dX4_errorInNumber_34 ?_
          refine V_iadd dX4_errorInNumber_36 ?_
          rw [nI_add]
          exact V_iret rfl dX4_errorInNumber_37 (by decide) (by decide) ⟨by rw [he]; simp only [bI0, Decidable.not_not] at h30; simp [kErrGo, h30], rfl⟩
  refine V_iconst (v := 0) dX4_errorInNumber_0 (by decide) ?_
  refine V_ist5 dX4_errorInNumber_1 rfl (by decide) ?_
  refine V_iconst (v := 0) dX4_errorInNumber_3 (by decide) ?_
  refine V_ist6 dX4_errorInNumber_4 rfl (by decide) ?_
  exact loop m 0 0 _ _ (by omega) rfl
theorem c_X4_errorInDrop (h : rTx n K G t) (hi : iTx M t len) {a : Nat} (ha : a < 900) : Con E l Y_X4_errorInDrop [.ref t, .int (nI a)] (x, n, K, G, M, L) (xR (some (.int (kErrD (kSg (M (t + 1)) len) a))) (x, n, K, G, M, L)) xF := by
  have hr := h
  obtain ⟨h0, g1, h1⟩ := h
  refine Con.mk 1 mp_X4_errorInDrop rfl (ls := [some (.ref t), some (.int (nI a)), none]) rfl (Nat.le_of_ble_eq_true rfl) ?_
  refine V_ald0 dX4_errorInDrop_0 ?_
  refine V_ild1 dX4_errorInDrop_1 ?_
  refine V_iconst (v := 2) dX4_errorInDrop_2 (by decide) ?_
  refine V_iconst (v := 0) dX4_errorInDrop_3 (by decide) ?_
  refine V_bipush (v := 99) dX4_errorInDrop_4 (by decide) ?_
  refine V_cv4R lk_X4_39 cc_X4_errorInNumber dX4_errorInDrop_6 (by assumption) (c_X4_errorInNumber hr hi (a := a) (m := 2) (by omega) (by omega) 0 99) ft_X4_errorInDrop_X4_errorInNumber rfl rfl (Nat.le_of_ble_eq_true rfl) ?_
  refine V_ist2 dX4_errorInDrop_9 rfl (by decide) ?_
  refine V_ild2 dX4_errorInDrop_10 ?_
  refine V_bipush (v := (-9)) dX4_errorInDrop_11 (by decide) ?_
  refine V_icmp_eq (tgt := 20) dX4_errorInDrop_13 (by decide) (fun h13 => ?_) (fun h13 => ?_)
  · refine V_ald0 dX4_errorInDrop_20 ?_
    refine V_ild1 dX4_errorInDrop_21 ?_
    refine V_iconst (v := 2) dX4_errorInDrop_22 (by decide) ?_
    refine V_iadd dX4_errorInDrop_23 ?_
    refine V_iconst (v := 2) dX4_errorInDrop_24 (by decide) ?_
    refine V_iconst (v := 1) dX4_errorInDrop_25 (by decide) ?_
    refine V_bipush (v := 60) dX4_errorInDrop_26 (by decide) ?_
    rw [show nI a + 2 = nI (a + 2) from nI_add a 2]
    refine V_cv4R lk_X4_39 cc_X4_errorInNumber dX4_errorInDrop_28 (by assumption) (c_X4_errorInNumber hr hi (a := a + 2) (m := 2) (by omega) (by omega) 1 60) ft_X4_errorInDrop_X4_errorInNumber rfl rfl (Nat.le_of_ble_eq_true rfl) ?_
    exact V_iret rfl dX4_errorInDrop_31 (by decide) (by decide) ⟨by simp [kErrD, h13], rfl⟩
  · refine V_ild2 dX4_errorInDrop_16 ?_
    refine V_goto (tgt := 31) dX4_errorInDrop_17 (by decide) ?_
    exact V_iret rfl dX4_errorInDrop_31 (by decide) (by decide) ⟨by simp [kErrD, h13], rfl⟩
theorem c_X4_errorInSetting (h : rTx n K G t) (hi : iTx M t len) {a m w : Nat} (ha : a < 900) (hm : m < 1000) (hw : w < 5) : Con E l Y_X4_errorInSetting [.ref t, .int (nI a), .int (nI m), .int (nI w)] (x, n, K, G, M, L) (xR (some (.int (kErrN (kSg (M (t + 1)) len) a m (xLeast w) (xGreatest w)))) (x, n, K, G, M, L)) xF := by
  have hr := h
  obtain ⟨h0, g1, h1⟩ := h
  refine Con.mk 0 mp_X4_errorInSetting rfl (ls := [some (.ref t), some (.int (nI a)), some (.int (nI m)), some (.int (nI w))]) rfl (Nat.le_of_ble_eq_true rfl) ?_
  refine V_ald0 dX4_errorInSetting_0 ?_
  refine V_ild1 dX4_errorInSetting_1 ?_
  refine V_ild2 dX4_errorInSetting_2 ?_
  refine V_getsN (Y := Y_X4_errorInSetting) (k := 0) (Or.inl ⟨rfl, rfl⟩) mg_X4_47 dX4_errorInSetting_3 ?_
  refine V_ild3 dX4_errorInSetting_6 ?_
  refine V_ro0 (j := w) rfl hw dX4_errorInSetting_7 ?_
  refine V_getsN (Y := Y_X4_errorInSetting) (k := 1) (Or.inr ⟨rfl, rfl⟩) mg_X4_50 dX4_errorInSetting_8 ?_
  refine V_ild3 dX4_errorInSetting_11 ?_
  refine V_ro1 (j := w) rfl hw dX4_errorInSetting_12 ?_
  refine V_cv4R lk_X4_39 cc_X4_errorInNumber dX4_errorInSetting_13 (by assumption) (c_X4_errorInNumber hr hi (a := a) (m := m) (by omega) (by omega) _ _) ft_X4_errorInSetting_X4_errorInNumber rfl rfl (Nat.le_of_ble_eq_true rfl) ?_
  exact V_iret rfl dX4_errorInSetting_16 (by decide) (by decide) ⟨rfl, rfl⟩
theorem c_X4_errorInPart (h : rTx n K G t) (hi : iTx M t len) {a : Nat} (ha : a < 800) : Con E l Y_X4_errorInPart [.ref t, .int (nI a)] (x, n, K, G, M, L) (xR (some (.int (kErrP (kSg (M (t + 1)) len) a))) (x, n, K, G, M, L)) xF := by
  have hr := h
  obtain ⟨h0, g1, h1⟩ := h
  refine Con.mk 0 mp_X4_errorInPart rfl (ls := [some (.ref t), some (.int (nI a))]) rfl (Nat.le_of_ble_eq_true rfl) ?_
  refine V_ald0 dX4_errorInPart_0 ?_
  refine V_ild1 dX4_errorInPart_1 ?_
  refine V_cv1R lk_X4_23 cc_X4_signAt dX4_errorInPart_2 (by assumption) (c_X4_signAt hr hi (by omega)) ft_X4_errorInPart_X4_signAt rfl rfl (Nat.le_of_ble_eq_true rfl) ?_
  refine V_topi (fun y5 e5 => ?_)
  by_cases s5_100 : y5 = 100
  · subst s5_100
    refine V_lookup (tgt := 56) (off := 51) dX4_errorInPart_5 (by decide) (by decide) (by decide) ?_
    refine V_ald0 dX4_errorInPart_56 ?_
    refine V_ild1 dX4_errorInPart_57 ?_
    refine V_iconst (v := 1) dX4_errorInPart_58 (by decide) ?_
    refine V_iadd dX4_errorInPart_59 ?_
    rw [nI_1]
    refine V_cv1R lk_X4_36 cc_X4_errorInDrop dX4_errorInPart_60 (by assumption) (c_X4_errorInDrop hr hi (a := a + 1) (by omega)) ft_X4_errorInPart_X4_errorInDrop rfl rfl (Nat.le_of_ble_eq_true rfl) ?_
    exact V_iret rfl dX4_errorInPart_63 (by decide) (by decide) ⟨by simp [kErrP, ← e5, xLeast, xGreatest], rfl⟩
  by_cases s5_103 : y5 = 103
  · subst s5_103
    refine V_lookup (tgt := 96) (off := 91) dX4_errorInPart_5 (by decide) (by decide) (by decide) ?_
    refine V_ald0 dX4_errorInPart_96 ?_
    refine V_ild1 dX4_errorInPart_97 ?_
    refine V_iconst (v := 1) dX4_errorInPart_98 (by decide) ?_
    refine V_iadd dX4_errorInPart_99 ?_
    rw [nI_1]
    refine V_iconst (v := 1) dX4_errorInPart_100 (by decide) ?_
    refine V_iconst (v := 2) dX4_errorInPart_101 (by decide) ?_
    refine V_cv3R lk_X4_43 cc_X4_errorInSetting dX4_errorInPart_102 (by assumption) (c_X4_errorInSetting hr hi (a := a + 1) (m := 1) (w := 2) (by omega) (by omega) (by omega)) ft_X4_errorInPart_X4_errorInSetting rfl rfl (Nat.le_of_ble_eq_true rfl) ?_
    exact V_iret rfl dX4_errorInPart_105 (by decide) (by decide) ⟨by simp [kErrP, ← e5, xLeast, xGreatest], rfl⟩
  by_cases s5_112 : y5 = 112
  · subst s5_112
    refine V_lookup (tgt := 64) (off := 59) dX4_errorInPart_5 (by decide) (by decide) (by decide) ?_
    refine V_ald0 dX4_errorInPart_64 ?_
    refine V_ild1 dX4_errorInPart_65 ?_
    refine V_iconst (v := 1) dX4_errorInPart_66 (by decide) ?_
    refine V_iadd dX4_errorInPart_67 ?_
    rw [nI_1]
    refine V_iconst (v := 2) dX4_errorInPart_68 (by decide) ?_
    refine V_iconst (v := 1) dX4_errorInPart_69 (by decide) ?_
    refine V_bipush (v := 99) dX4_errorInPart_70 (by decide) ?_
    refine V_cv4R lk_X4_39 cc_X4_errorInNumber dX4_errorInPart_72 (by assumption) (c_X4_errorInNumber hr hi (a := a + 1) (m := 2) (by omega) (by omega) 1 99) ft_X4_errorInPart_X4_errorInNumber rfl rfl (Nat.le_of_ble_eq_true rfl) ?_
    exact V_iret rfl dX4_errorInPart_75 (by decide) (by decide) ⟨by simp [kErrP, ← e5, xLeast, xGreatest], rfl⟩
  by_cases s5_116 : y5 = 116
  · subst s5_116
    refine V_lookup (tgt := 76) (off := 71) dX4_errorInPart_5 (by decide) (by decide) (by decide) ?_
    refine V_ald0 dX4_errorInPart_76 ?_
    refine V_ild1 dX4_errorInPart_77 ?_
    refine V_iconst (v := 1) dX4_errorInPart_78 (by decide) ?_
    refine V_iadd dX4_errorInPart_79 ?_
    rw [nI_1]
    refine V_iconst (v := 2) dX4_errorInPart_80 (by decide) ?_
    refine V_iconst (v := 0) dX4_errorInPart_81 (by decide) ?_
    refine V_cv3R lk_X4_43 cc_X4_errorInSetting dX4_errorInPart_82 (by assumption) (c_X4_errorInSetting hr hi (a := a + 1) (m := 2) (w := 0) (by omega) (by omega) (by omega)) ft_X4_errorInPart_X4_errorInSetting rfl rfl (Nat.le_of_ble_eq_true rfl) ?_
    exact V_iret rfl dX4_errorInPart_85 (by decide) (by decide) ⟨by simp [kErrP, ← e5, xLeast, xGreatest], rfl⟩
  by_cases s5_119 : y5 = 119
  · subst s5_119
    refine V_lookup (tgt := 86) (off := 81) dX4_errorInPart_5 (by decide) (by decide) (by decide) ?_
    refine V_ald0 dX4_errorInPart_86 ?_
    refine V_ild1 dX4_errorInPart_87 ?_
    refine V_iconst (v := 1) dX4_errorInPart_88 (by decide) ?_
    refine V_iadd dX4_errorInPart_89 ?_
    rw [nI_1]
    refine V_iconst (v := 2) dX4_errorInPart_90 (by decide) ?_
    refine V_iconst (v := 1) dX4_errorInPart_91 (by decide) ?_
    refine V_cv3R lk_X4_43 cc_X4_errorInSetting dX4_errorInPart_92 (by assumption) (c_X4_errorInSetting hr hi (a := a + 1) (m := 2) (w := 1) (by omega) (by omega) (by omega)) ft_X4_errorInPart_X4_errorInSetting rfl rfl (Nat.le_of_ble_eq_true rfl) ?_
    exact V_iret rfl dX4_errorInPart_95 (by decide) (by decide) ⟨by simp [kErrP, ← e5, xLeast, xGreatest], rfl⟩
  refine V_lookup (tgt := 106) (off := 101) dX4_errorInPart_5 (by decide) (by have q100 : y5.toInt ≠ 100 := xne s5_100; have q103 : y5.toInt ≠ 103 := xne s5_103; have q112 : y5.toInt ≠ 112 := xne s5_112; have q116 : y5.toInt ≠ 116 := xne s5_116; have q119 : y5.toInt ≠ 119 := xne s5_119; simp [Op.lookupswitch.offset, q100, Ne.symm q100, q103, Ne.symm q103, q112, Ne.symm q112, q116, Ne.symm q116, q119, Ne.symm q119]) (by decide) ?_
  refine V_ild1 dX4_errorInPart_106 ?_
  exact V_iret rfl dX4_errorInPart_107 (by decide) (by decide) ⟨by simp only [kErrP, ← e5, s5_100, s5_103, s5_112, s5_116, s5_119, if_false], rfl⟩
theorem kPaL_le (g : Nat → Int32) (a : Nat) : kPaL g a ≤ 5 := by unfold kPaL; split <;> (try split) <;> omega
theorem c_X4_firstError (h : rTx n K G t) (hi : iTx M t len) : Con E l Y_X4_firstError [.ref t] (x, n, K, G, M, L) (xR (some (.int (kFirst (kSg (M (t + 1)) len) len))) (x, n, K, G, M, L)) xF := by
  have hr := h
  have hi0 := hi
  obtain ⟨h0, g1, h1⟩ := h
  obtain ⟨i1, i2⟩ := hi
  refine Con.mk 3 mp_X4_firstError rfl (ls := [some (.ref t), none, none, none]) rfl (Nat.le_of_ble_eq_true rfl) ?_
  have loop : ∀ (d a i : Nat) (o : Option Value), i + d = 100 → a ≤ 5 * i + 1 → kFirst (kSg (M (t + 1)) len) len = kFiE (kSg (M (t + 1)) len) len d a → V E l Y_X4_firstError (xQm E Y_X4_firstError (xR (some (.int (kFirst (kSg (M (t + 1)) len) len))) (x, n, K, G, M, L)) xF) (x, n, K, G, M, L) (0, 0) 16 [some (.ref t), some (.int (nI a)), some (.int (nI i)), o] [] := by
    intro d
    induction d with
    | zero =>
      intro a i o hd ha he
      have e : i = 100 := by omega
      subst e
      refine V_ild2 dX4_firstError_16 ?_
      refine V_bipush (v := 100) dX4_firstError_17 (by decide) ?_
      refine V_icmp_ge (tgt := 58) dX4_firstError_19 (by decide) (fun h19 => ?_) (fun h19 => ?_)
      · refine V_bipush (v := (-9)) dX4_firstError_58 (by decide) ?_
        exact V_iret rfl dX4_firstError_60 (by decide) (by decide) ⟨by rw [he]; rfl, rfl⟩
      · exact absurd h19 (by decide)
    | succ d ih =>
      intro a i o hd ha he
      have e2 : nI a < nI len ↔ a < len := nI_ltI (by omega) (by omega)
      refine V_ild2 dX4_firstError_16 ?_
      refine V_bipush (v := 100) dX4_firstError_17 (by decide) ?_
      refine V_icmp_ge (tgt := 58) dX4_firstError_19 (by decide) (fun h19 => ?_) (fun h19 => ?_)
      · exact absurd (nI_lt (b := 100) (by omega) (by decide)) h19
      · refine V_ild1 dX4_firstError_22 ?_
        refine V_ald0 dX4_firstError_23 ?_
        refine V_getI fd_X4_15 dX4_firstError_24 (by assumption) rfl ?_
        refine V_icmp_ge (tgt := 58) dX4_firstError_27 (by decide) (fun h27 => ?_) (fun h27 => ?_)
        · refine V_bipush (v := (-9)) dX4_firstError_58 (by decide) ?_
          exact V_iret rfl dX4_firstError_60 (by decide) (by decide) ⟨by rw [i1, e2] at h27; rw [he]; simp [kFiE, *], rfl⟩
        · refine V_ald0 dX4_firstError_30 ?_
          refine V_ild1 dX4_firstError_31 ?_
          refine V_cv1R lk_X4_30 cc_X4_errorInPart dX4_firstError_32 (by assumption) (c_X4_errorInPart hr hi0 (a := a) (by omega)) ft_X4_firstError_X4_errorInPart rfl rfl (Nat.le_of_ble_eq_true rfl) ?_
          refine V_ist3 dX4_firstError_35 rfl (by decide) ?_
          refine V_ild3 dX4_firstError_36 ?_
          refine V_bipush (v := (-9)) dX4_firstError_37 (by decide) ?_
          refine V_icmp_eq (tgt := 44) dX4_firstError_39 (by decide) (fun h39 => ?_) (fun h39 => ?_)
          · refine V_ild1 dX4_firstError_44 ?_
            refine V_ald0 dX4_firstError_45 ?_
            refine V_ild1 dX4_firstError_46 ?_
            refine V_cv1R lk_X4_33 cc_X4_partLength dX4_firstError_47 (by assumption) (c_X4_partLength hr hi0 (j := a) (by omega)) ft_X4_firstError_X4_partLength rfl rfl (Nat.le_of_ble_eq_true rfl) ?_
            refine V_iadd dX4_firstError_50 ?_
            rw [nI_add]
            refine V_ist1 dX4_firstError_51 rfl (by decide) ?_
            refine V_inc2 dX4_firstError_52 rfl (nI_1 i) ?_
            refine V_goto (tgt := 16) dX4_firstError_55 (by decide) ?_
            have hp := kPaL_le (kSg (M (t + 1)) len) a
            rw [i1, e2] at h27
            refine ih _ (i + 1) _ (by omega) (by omega) ?_
            rw [he]; simp [kFiE, *]
          · refine V_ild3 dX4_firstError_42 ?_
            exact V_iret rfl dX4_firstError_43 (by decide) (by decide) ⟨by rw [i1, e2] at h27; rw [he]; simp [kFiE, *], rfl⟩
  refine V_ald0 dX4_firstError_0 ?_
  refine V_iconst (v := 0) dX4_firstError_1 (by decide) ?_
  refine V_cv1R lk_X4_23 cc_X4_signAt dX4_firstError_2 (by assumption) (c_X4_signAt hr hi0 (j := 0) (by omega)) ft_X4_firstError_X4_signAt rfl rfl (Nat.le_of_ble_eq_true rfl) ?_
  refine V_bipush (v := 80) dX4_firstError_5 (by decide) ?_
  refine V_icmp_eq (tgt := 12) dX4_firstError_7 (by decide) (fun h7 => ?_) (fun h7 => ?_)
  · refine V_iconst (v := 1) dX4_firstError_12 (by decide) ?_
    refine V_ist1 dX4_firstError_13 rfl (by decide) ?_
    refine V_iconst (v := 0) dX4_firstError_14 (by decide) ?_
    refine V_ist2 dX4_firstError_15 rfl (by decide) ?_
    exact loop 100 1 0 _ (by omega) (by omega) (by simp [kFirst, *])
  · refine V_iconst (v := 0) dX4_firstError_10 (by decide) ?_
    exact V_iret rfl dX4_firstError_11 (by decide) (by decide) ⟨by simp [kFirst, *], rfl⟩
end C24

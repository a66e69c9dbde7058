/-! ===== the reference: patterns ===== -/
theorem kSum_head (g : Nat → Int32) : ∀ n, kSum g (n + 1) = g 0 + kSum (fun j => g (j + 1)) n
  | 0 => by simp [kSum]
  | n + 1 => by
    rw [kSum, kSum_head g n, kSum, Int32.add_assoc]
theorem kSum_rev (g : Nat → Int32) : ∀ n, kSum (fun j => g (n - 1 - j)) n = kSum g n
  | 0 => rfl
  | n + 1 => by
    rw [kSum_head (fun j => g (n + 1 - 1 - j)) n, kSum, ← kSum_rev g n, Int32.add_comm, show n + 1 - 1 - 0 = n by omega]
    congr 1
    exact kSum_congr n fun i hi => by rw [show n + 1 - 1 - (i + 1) = n - 1 - i by omega]
/-- the last digits are fates -/
def nAf : Nat → Nat → Bool
  | 0, _ => true
  | r + 1, u => decide (u % 10 < 4) && nAf r (u / 10)
theorem nAf_top : ∀ (r u : Nat), nAf (r + 1) u = (nAf r u && decide (u / 10 ^ r % 10 < 4))
  | 0, u => by simp [nAf]
  | r + 1, u => by
    rw [nAf, nAf_top r (u / 10), nAf, Bool.and_assoc, Nat.div_div_eq_div_mul, ← Nat.pow_succ']
theorem nAf_0 : ∀ r, nAf r 0 = true
  | 0 => rfl
  | r + 1 => by rw [nAf]; exact nAf_0 r
theorem kDg_n {t : Nat} (ht : t < 2 ^ 31) : ∀ i, kDg (nI t) i = nI (t / 10 ^ i)
  | 0 => by rw [kDg, Nat.pow_zero, Nat.div_one]
  | i + 1 => by
    rw [kDg, kDg_n ht i, show nI (t / 10 ^ i) / 10 = nI (t / 10 ^ i / 10) from pkD _ 10 (Nat.lt_of_le_of_lt (Nat.div_le_self _ _) ht) (by decide) (by decide), Nat.div_div_eq_div_mul, ← Nat.pow_succ]
theorem kAfB_n {t : Nat} (ht : t < 2 ^ 31) : ∀ i, kAfB (nI t) i = nAf i t
  | 0 => rfl
  | i + 1 => by
    rw [nAf_top, kAfB, kAfB_n ht i, kDg_n ht i]
    have l1 : t / 10 ^ i < 2 ^ 31 := Nat.lt_of_le_of_lt (Nat.div_le_self _ _) ht
    rw [show nI (t / 10 ^ i) - nI (t / 10 ^ i) / 10 * 10 = nI (t / 10 ^ i % 10) from pkR _ 10 l1 (by decide) (by decide)]
    have l2 : t / 10 ^ i % 10 < 10 := Nat.mod_lt _ (by decide)
    generalize t / 10 ^ i % 10 = z at *
    congr 1
    have e1 : ¬ nI z < 0 := nI_pos (by omega)
    have e2 : (3 : Int32) < nI z ↔ 3 < z := nI_ltI (a := 3) (by decide) (by omega)
    by_cases c : z < 4
    · rw [decide_eq_false e1, decide_eq_false (fun q => by have := e2.mp q; omega), decide_eq_true c]; rfl
    · rw [decide_eq_true (e2.mpr (by omega)), decide_eq_false c, Bool.or_true]; rfl
section C70
variable {E : xEnv} {l : Launch} {x : Bool} {n : Nat} {K : xKnd} {G : xRef} {M : xMem} {L : xLng} {a m p len T B : Nat} {S : xSp}
theorem c_X6_areFates {q : xS} (w d : Int32) : Con E l Y_X6_areFates [.int w, .int d] q (xR (some (.int (bI (kdPat w d = 0)))) q) xF := by
  generalize hA : bI (kdPat w d = 0) = A
  have loop : ∀ (r u : Nat) (b : Bool), u < 10 ^ r → u < 2 ^ 31 → A = bB (b && nAf r u) → V E l Y_X6_areFates (xQm E Y_X6_areFates (xR (some (.int A)) q) xF) q (0, 0) 59 [some (.int w), some (.int d), some (.int (bB b)), some (.int (nI u))] [] := by
    intro r
    induction r with
    | zero =>
      intro u b hu _ he
      have e : u = 0 := by rw [Nat.pow_zero] at hu; omega
      subst e
      refine V_ild3 dX6_areFates_59 ?_
      refine V_if_le (tgt := 89) dX6_areFates_60 (by decide) (fun h60 => ?_) (fun h60 => ?_)
      · refine V_ild2 dX6_areFates_89 ?_
        exact V_zret rfl dX6_areFates_90 (by cases b <;> simp [bB]) (by decide) (by decide) ⟨by rw [he, nAf, Bool.and_true], rfl⟩
      · exact absurd h60 (by decide)
    | succ r ih =>
      intro u b hu hu2 he
      by_cases c : u = 0
      · subst c
        refine V_ild3 dX6_areFates_59 ?_
        refine V_if_le (tgt := 89) dX6_areFates_60 (by decide) (fun h60 => ?_) (fun h60 => ?_)
        · refine V_ild2 dX6_areFates_89 ?_
          exact V_zret rfl dX6_areFates_90 (by cases b <;> simp [bB]) (by decide) (by decide) ⟨by rw [he, nAf_0, Bool.and_true], rfl⟩
        · exact absurd h60 (by decide)
      · have e4 : nI (u % 10) < 4 ↔ u % 10 < 4 := nI_ltI (b := 4) (by omega) (by decide)
        have key : ∀ (y : Bool), y = (b && decide (u % 10 < 4)) → V E l Y_X6_areFates (xQm E Y_X6_areFates (xR (some (.int A)) q) xF) q (0, 0) 80 [some (.int w), some (.int d), some (.int (bB b)), some (.int (nI u))] [.int (bB y)] := by
          intro y hy
          refine V_ist2 dX6_areFates_80 rfl (by decide) ?_
          refine V_ild3 dX6_areFates_81 ?_
          refine V_bipush (v := 10) dX6_areFates_82 (by decide) ?_
          refine V_idiv dX6_areFates_84 (by decide) ?_
          rw [show nI u / 10 = nI (u / 10) from pkD u 10 hu2 (by decide) (by decide)]
          refine V_ist3 dX6_areFates_85 rfl (by decide) ?_
          refine V_goto (tgt := 59) dX6_areFates_86 (by decide) ?_
          exact ih (u / 10) y (by rw [Nat.div_lt_iff_lt_mul (by decide)]; rwa [Nat.pow_succ] at hu) (by omega) (by rw [he, hy, nAf, Bool.and_assoc])
        refine V_ild3 dX6_areFates_59 ?_
        refine V_if_le (tgt := 89) dX6_areFates_60 (by decide) (fun h60 => ?_) (fun h60 => ?_)
        · exact absurd (nI_lt (a := 0) (by omega) hu2) h60
        · refine V_ild2 dX6_areFates_63 ?_
          refine V_if_eq (tgt := 79) dX6_areFates_64 (by decide) (fun h64 => ?_) (fun h64 => ?_)
          · refine V_iconst (v := 0) dX6_areFates_79 (by decide) ?_
            first
            | (guard_hyp h64 : bB b = 0
               exact key false (by cases b; rfl; exact absurd h64 (by decide)))
            | (guard_hyp h72 : nI (u % 10) < 4
               have b1 : b = true := by cases b; exact absurd rfl h64; rfl
               exact key true (by rw [b1, decide_eq_true (e4.mp h72)]; rfl))
            | (have b0 : decide (u % 10 < 4) = false := decide_eq_false (fun z => h72 (e4.mpr z))
               exact key false (by rw [b0, Bool.and_false]))
          · refine V_ild3 dX6_areFates_67 ?_
            refine V_bipush (v := 10) dX6_areFates_68 (by decide) ?_
            refine V_irem dX6_areFates_70 (by decide) ?_
            rw [show nI u - nI u / 10 * 10 = nI (u % 10) from pkR u 10 hu2 (by decide) (by decide)]
            refine V_iconst (v := 4) dX6_areFates_71 (by decide) ?_
            refine V_icmp_ge (tgt := 79) dX6_areFates_72 (by decide) (fun h72 => ?_) (fun h72 => ?_)
            · refine V_iconst (v := 0) dX6_areFates_79 (by decide) ?_
              first
              | (guard_hyp h64 : bB b = 0
                 exact key false (by cases b; rfl; exact absurd h64 (by decide)))
              | (guard_hyp h72 : nI (u % 10) < 4
                 have b1 : b = true := by cases b; exact absurd rfl h64; rfl
                 exact key true (by rw [b1, decide_eq_true (e4.mp h72)]; rfl))
              | (have b0 : decide (u % 10 < 4) = false := decide_eq_false (fun z => h72 (e4.mpr z))
                 exact key false (by rw [b0, Bool.and_false]))
            · refine V_iconst (v := 1) dX6_areFates_75 (by decide) ?_
              refine V_goto (tgt := 80) dX6_areFates_76 (by decide) ?_
              first
              | (guard_hyp h64 : bB b = 0
                 exact key false (by cases b; rfl; exact absurd h64 (by decide)))
              | (guard_hyp h72 : nI (u % 10) < 4
                 have b1 : b = true := by cases b; exact absurd rfl h64; rfl
                 exact key true (by rw [b1, decide_eq_true (e4.mp h72)]; rfl))
              | (have b0 : decide (u % 10 < 4) = false := decide_eq_false (fun z => h72 (e4.mpr z))
                 exact key false (by rw [b0, Bool.and_false]))
  refine Con.mk 2 mp_X6_areFates rfl (ls := [some (.int w), some (.int d), none, none]) rfl (Nat.le_of_ble_eq_true rfl) ?_
  by_cases c : w < 1 ∨ 8 < w
  · have kd : kdPat w d = 1 := if_pos c
    refine V_ild0 dX6_areFates_0 ?_
    refine V_i2l dX6_areFates_1 ?_
    refine V_lconst (v := 1) dX6_areFates_2 (by decide) ?_
    refine V_ldc2 dX6_areFates_3 mk_X6_154 ?_
    refine V_cs3R lk_X6_86 cc_X6_in dX6_areFates_6 (c_X6_inI w 1 8) ft_X6_areFates_X6_in rfl rfl (Nat.le_of_ble_eq_true rfl) ?_
    refine V_if_eq (tgt := 47) dX6_areFates_9 (by decide) (fun h9 => ?_) (fun h9 => ?_)
    · refine V_iconst (v := 0) dX6_areFates_47 (by decide) ?_
      refine V_ist2 dX6_areFates_48 rfl (by decide) ?_
      refine V_ild2 dX6_areFates_49 ?_
      refine V_if_eq (tgt := 57) dX6_areFates_50 (by decide) (fun h50 => ?_) (fun h50 => ?_)
      · refine V_iconst (v := 0) dX6_areFates_57 (by decide) ?_
        refine V_ist3 dX6_areFates_58 rfl (by decide) ?_
        exact loop 0 0 false (by decide) (by decide) (by rw [← hA, kd]; decide)
      · exact absurd rfl h50
    · exact absurd (bIf (not_not_intro c)) h9
  · have c' := c
    rw [not_or] at c'
    obtain ⟨N, n1, n8, eN⟩ := xIdx1 (N := 8) (by decide) c'.1 c'.2
    have ek : w.toNatClampNeg = N := by rw [eN, nI_clamp (by omega)]
    have kd : kdPat w d = if kAfB d N = true ∧ ¬ d < 0 ∧ kDg d N = 0 then 0 else 1 := by unfold kdPat; rw [if_neg c, ek]
    have p1 : 10 ^ N ≤ 100000000 := Nat.pow_le_pow_right (n := 10) (by decide) n8
    have p0 : 0 < 10 ^ N := Nat.pow_pos (by decide)
    have e1 : lN (10 ^ N) - 1 = lN (10 ^ N - 1) := lN_sub (b := 1) p0
    have i2 : ∀ {q : xS}, Con E l Y_X6_in [.long d.toInt64, .long 0, .long (lN (10 ^ N - 1))] q (xR (some (.int (bI (¬ (d < 0 ∨ nI (10 ^ N - 1) < d))))) q) xF := fun {q} => by
      have := c_X6_inI (E := E) (l := l) (q := q) d 0 (nI (10 ^ N - 1))
      rw [nI_l (by omega)] at this
      exact this
    by_cases c2 : d < 0 ∨ nI (10 ^ N - 1) < d
    · have k1 : kdPat w d = 1 := by
        rw [kd, if_neg]
        rintro ⟨-, q1, q2⟩
        rcases c2 with z | z
        · exact q1 z
        · obtain ⟨t, t1, rfl⟩ := nI_of q1
          rw [kDg_n t1] at q2
          have := (nI_eq (b := 0) (Nat.lt_of_le_of_lt (Nat.div_le_self _ _) t1) (by decide)).mp q2
          rw [Nat.div_eq_zero_iff] at this
          have z2 := (nI_ltI (by omega) t1).mp z
          omega
      refine V_ild0 dX6_areFates_0 ?_
      refine V_i2l dX6_areFates_1 ?_
      refine V_lconst (v := 1) dX6_areFates_2 (by decide) ?_
      refine V_ldc2 dX6_areFates_3 mk_X6_154 ?_
      refine V_cs3R lk_X6_86 cc_X6_in dX6_areFates_6 (c_X6_inI w 1 8) ft_X6_areFates_X6_in rfl rfl (Nat.le_of_ble_eq_true rfl) ?_
      refine V_if_eq (tgt := 47) dX6_areFates_9 (by decide) (fun h9 => ?_) (fun h9 => ?_)
      · exact absurd (bIt c) (by rw [h9]; decide)
      · refine V_ild1 dX6_areFates_12 ?_
        refine V_i2l dX6_areFates_13 ?_
        refine V_lconst (v := 0) dX6_areFates_14 (by decide) ?_
        refine V_ild0 dX6_areFates_15 ?_
        refine V_i2l dX6_areFates_16 ?_
        refine V_lconst (v := 1) dX6_areFates_17 (by decide) ?_
        refine V_ldc2 dX6_areFates_18 mk_X6_154 ?_
        refine V_cs3R lk_X6_86 cc_X6_in dX6_areFates_21 (c_X6_inI w 1 8) ft_X6_areFates_X6_in rfl rfl (Nat.le_of_ble_eq_true rfl) ?_
        refine V_if_eq (tgt := 31) dX6_areFates_24 (by decide) (fun h24 => ?_) (fun h24 => ?_)
        · exact absurd (bIt c) (by rw [h24]; decide)
        · refine V_ild0 dX6_areFates_27 ?_
          refine V_goto (tgt := 32) dX6_areFates_28 (by decide) ?_
          rw [eN]
          refine V_cs1R lk_X6_156 cc_X6_tenTo dX6_areFates_32 (c_X6_tenTo (j := N) (by omega)) ft_X6_areFates_X6_tenTo rfl rfl (Nat.le_of_ble_eq_true rfl) ?_
          refine V_lconst (v := 1) dX6_areFates_35 (by decide) ?_
          refine V_lsub dX6_areFates_36 ?_
          rw [e1]
          refine V_cs3R lk_X6_86 cc_X6_in dX6_areFates_37 (i2) ft_X6_areFates_X6_in rfl rfl (Nat.le_of_ble_eq_true rfl) ?_
          refine V_if_eq (tgt := 47) dX6_areFates_40 (by decide) (fun h40 => ?_) (fun h40 => ?_)
          · refine V_iconst (v := 0) dX6_areFates_47 (by decide) ?_
            refine V_ist2 dX6_areFates_48 rfl (by decide) ?_
            refine V_ild2 dX6_areFates_49 ?_
            refine V_if_eq (tgt := 57) dX6_areFates_50 (by decide) (fun h50 => ?_) (fun h50 => ?_)
            · refine V_iconst (v := 0) dX6_areFates_57 (by decide) ?_
              refine V_ist3 dX6_areFates_58 rfl (by decide) ?_
              rw [← eN]
              exact loop 0 0 false (by decide) (by decide) (by rw [← hA, k1]; decide)
            · exact absurd rfl h50
          · exact absurd (bIf (not_not_intro c2)) h40
    · have c2' := c2
      rw [not_or] at c2'
      obtain ⟨t, t1, et⟩ := nI_of c2'.1
      have tl : t < 10 ^ N := by
        have := c2'.2
        rw [et, nI_ltI (by omega) t1] at this
        omega
      have k2 : A = bB (true && nAf N t) := by
        rw [← hA, kd, et, kAfB_n t1, kDg_n t1, Nat.div_eq_of_lt tl, Bool.true_and]
        cases nAf N t
        · rw [if_neg (fun q => absurd q.1 (by decide))]; decide
        · rw [if_pos ⟨rfl, nI_pos t1, rfl⟩]; decide
      refine V_ild0 dX6_areFates_0 ?_
      refine V_i2l dX6_areFates_1 ?_
      refine V_lconst (v := 1) dX6_areFates_2 (by decide) ?_
      refine V_ldc2 dX6_areFates_3 mk_X6_154 ?_
      refine V_cs3R lk_X6_86 cc_X6_in dX6_areFates_6 (c_X6_inI w 1 8) ft_X6_areFates_X6_in rfl rfl (Nat.le_of_ble_eq_true rfl) ?_
      refine V_if_eq (tgt := 47) dX6_areFates_9 (by decide) (fun h9 => ?_) (fun h9 => ?_)
      · exact absurd (bIt c) (by rw [h9]; decide)
      · refine V_ild1 dX6_areFates_12 ?_
        refine V_i2l dX6_areFates_13 ?_
        refine V_lconst (v := 0) dX6_areFates_14 (by decide) ?_
        refine V_ild0 dX6_areFates_15 ?_
        refine V_i2l dX6_areFates_16 ?_
        refine V_lconst (v := 1) dX6_areFates_17 (by decide) ?_
        refine V_ldc2 dX6_areFates_18 mk_X6_154 ?_
        refine V_cs3R lk_X6_86 cc_X6_in dX6_areFates_21 (c_X6_inI w 1 8) ft_X6_areFates_X6_in rfl rfl (Nat.le_of_ble_eq_true rfl) ?_
        refine V_if_eq (tgt := 31) dX6_areFates_24 (by decide) (fun h24 => ?_) (fun h24 => ?_)
        · exact absurd (bIt c) (by rw [h24]; decide)
        · refine V_ild0 dX6_areFates_27 ?_
          refine V_goto (tgt := 32) dX6_areFates_28 (by decide) ?_
          rw [eN]
          refine V_cs1R lk_X6_156 cc_X6_tenTo dX6_areFates_32 (c_X6_tenTo (j := N) (by omega)) ft_X6_areFates_X6_tenTo rfl rfl (Nat.le_of_ble_eq_true rfl) ?_
          refine V_lconst (v := 1) dX6_areFates_35 (by decide) ?_
          refine V_lsub dX6_areFates_36 ?_
          rw [e1]
          refine V_cs3R lk_X6_86 cc_X6_in dX6_areFates_37 (i2) ft_X6_areFates_X6_in rfl rfl (Nat.le_of_ble_eq_true rfl) ?_
          refine V_if_eq (tgt := 47) dX6_areFates_40 (by decide) (fun h40 => ?_) (fun h40 => ?_)
          · exact absurd (bIt c2) (by rw [h40]; decide)
          · refine V_iconst (v := 1) dX6_areFates_43 (by decide) ?_
            refine V_goto (tgt := 48) dX6_areFates_44 (by decide) ?_
            refine V_ist2 dX6_areFates_48 rfl (by decide) ?_
            refine V_ild2 dX6_areFates_49 ?_
            refine V_if_eq (tgt := 57) dX6_areFates_50 (by decide) (fun h50 => ?_) (fun h50 => ?_)
            · exact absurd h50 (by decide)
            · refine V_ild1 dX6_areFates_53 ?_
              refine V_goto (tgt := 58) dX6_areFates_54 (by decide) ?_
              refine V_ist3 dX6_areFates_58 rfl (by decide) ?_
              rw [← eN]
              have := loop N t true tl t1 k2
              rw [← et] at this
              exact this
theorem c_X6_pattern (h : rM n K G m) (hc : MRel M m S) (hw : WFr S.2.2.1 T B) (w d : Int32) : Con E l Y_X6_pattern [.ref m, .int w, .int d] (x, n, K, G, M, L) (xN (kdPat w d) (aPat S.2.2.1 (S.2.2.1 47).toNatClampNeg w.toNatClampNeg d) S m x n K G M L) xF := by
  obtain ⟨h0, -, -, -, -, g6, h3, -⟩ := h
  have hr := hc.r0
  obtain ⟨l60, e47⟩ := hw.len
  have el : (S.2.2.1 47).toNatClampNeg = xLf S.2.2.1 := rfl
  rw [el]
  generalize xLf S.2.2.1 = lf at *
  refine Con.mk 5 mp_X6_pattern rfl (ls := [some (.ref m), some (.int w), some (.int d), none, none, none, none, none]) rfl (Nat.le_of_ble_eq_true rfl) ?_
  by_cases c : kdPat w d = 0
  · have cw : ¬ (w < 1 ∨ 8 < w) := fun q => absurd (c.symm.trans (if_pos q)) (by decide)
    have c' := cw
    rw [not_or] at c'
    obtain ⟨N, n1, n8, eN⟩ := xIdx1 (N := 8) (by decide) c'.1 c'.2
    have ek : w.toNatClampNeg = N := by rw [eN, nI_clamp (by omega)]
    rw [ek]
    have eA : aPat S.2.2.1 lf N d = kSum (fun at9 => bI (kStB (fun j => S.2.2.1 (48 + (at9 + N - 1 - j))) 0 d N = true)) (lf + 1 - N) := by
      unfold aPat
      rw [← kSum_rev]
      refine kSum_congr _ fun i hi => ?_
      have : kStB (fun j => S.2.2.1 (48 + (lf - 1 - j))) (lf + 1 - N - 1 - i) d N = kStB (fun j => S.2.2.1 (48 + (i + N - 1 - j))) 0 d N := by
        have gen : ∀ m9, m9 ≤ N → kStB (fun j => S.2.2.1 (48 + (lf - 1 - j))) (lf + 1 - N - 1 - i) d m9 = kStB (fun j => S.2.2.1 (48 + (i + N - 1 - j))) 0 d m9 := by
          intro m9
          induction m9 with
          | zero => intro _; rfl
          | succ m9 ih => intro hm; rw [kStB, kStB, ih (by omega)]; rw [show lf - 1 - (lf + 1 - N - 1 - i + m9) = i + N - 1 - (0 + m9) by omega]
        exact gen N (Nat.le_refl N)
      rw [this]
    rw [eA]
    generalize hF : (fun at9 => bI (kStB (fun j => S.2.2.1 (48 + (at9 + N - 1 - j))) 0 d N = true)) = F
    have outer : ∀ (r i : Nat) (o5 o6 o7 : Option Value), r + i = lf + 1 - N → V E l Y_X6_pattern (xQm E Y_X6_pattern (xN (kdPat w d) (kSum F (lf + 1 - N)) S m x n K G M L) xF) (x, n, K, G, xup M m 0 0, L) (0, 0) 27 [some (.ref m), some (.int w), some (.int d), some (.int (kSum F i)), some (.int (nI i)), o5, o6, o7] [] := by
      intro r
      induction r with
      | zero =>
        intro i o5 o6 o7 hi
        have e : i = lf + 1 - N := by omega
        rw [← e]
        refine V_ild4 dX6_pattern_27 ?_
        refine V_ild1 dX6_pattern_29 ?_
        refine V_iadd dX6_pattern_30 ?_
        refine V_ald0 dX6_pattern_31 ?_
        refine V_getR fd_X6_16 dX6_pattern_32 (by assumption) (by assumption) rfl ?_
        refine V_bipush (v := 47) dX6_pattern_35 (by decide) ?_
        refine V_iald (j := 47) dX6_pattern_37 (by assumption) (by decide) (by decide) ?_
        refine V_icmp_gt (tgt := 122) dX6_pattern_38 (by decide) (fun h38 => ?_) (fun h38 => ?_)
        · refine V_ild3 dX6_pattern_122 ?_
          exact V_iret rfl dX6_pattern_123 (by decide) (by decide) (xN_g hc c rfl)
        · exact absurd h38 (by rw [hr, e47, eN, nI_add]; exact not_not_intro (nI_lt (by omega) (by omega)))
      | succ r ih =>
        intro i o5 o6 o7 hi
        have fi : F i = bI (kStB (fun j => S.2.2.1 (48 + (i + N - 1 - j))) 0 d N = true) := by rw [← hF]
        have inner : ∀ (r2 j : Nat), j + r2 = N → V E l Y_X6_pattern (xQm E Y_X6_pattern (xN (kdPat w d) (kSum F (lf + 1 - N)) S m x n K G M L) xF) (x, n, K, G, xup M m 0 0, L) (0, 0) 52 [some (.ref m), some (.int w), some (.int d), some (.int (kSum F i)), some (.int (nI i)), some (.int (kDg d j)), some (.int (bI (kStB (fun j => S.2.2.1 (48 + (i + N - 1 - j))) 0 d j = true))), some (.int (nI r2 + (-1)))] [] := by
          intro r2
          induction r2 with
          | zero =>
            intro j hj
            have e : j = N := by omega
            subst e
            have key : ∀ y, y = F i → V E l Y_X6_pattern (xQm E Y_X6_pattern (xN (kdPat w d) (kSum F (lf + 1 - j)) S m x n K G M L) xF) (x, n, K, G, xup M m 0 0, L) (0, 0) 114 [some (.ref m), some (.int w), some (.int d), some (.int (kSum F i)), some (.int (nI i)), some (.int (kDg d j)), some (.int (bI (kStB (fun z => S.2.2.1 (48 + (i + j - 1 - z))) 0 d j = true))), some (.int (nI 0 + (-1)))] [.int y, .int (kSum F i)] := by
              intro y hy
              subst hy
              refine V_iadd dX6_pattern_114 ?_
              refine V_ist3 dX6_pattern_115 rfl (by decide) ?_
              refine V_inc4 dX6_pattern_116 rfl (nI_1 i) ?_
              refine V_goto (tgt := 27) dX6_pattern_119 (by decide) ?_
              exact ih (i + 1) _ _ _ (by omega)
            refine V_ild7 dX6_pattern_52 ?_
            refine V_if_lt (tgt := 103) dX6_pattern_54 (by decide) (fun h54 => ?_) (fun h54 => ?_)
            · refine V_ild3 dX6_pattern_103 ?_
              refine V_ild6 dX6_pattern_104 ?_
              refine V_if_eq (tgt := 113) dX6_pattern_106 (by decide) (fun h106 => ?_) (fun h106 => ?_)
              · refine V_iconst (v := 0) dX6_pattern_113 (by decide) ?_
                first
                | exact key _ (by rw [fi]; exact h106.symm)
                | (rcases bI01 (kStB (fun z => S.2.2.1 (48 + (i + j - 1 - z))) 0 d j = true) with z | z
                   · exact absurd z h106
                   · exact key _ (by rw [fi]; exact z.symm))
              · refine V_iconst (v := 1) dX6_pattern_109 (by decide) ?_
                refine V_goto (tgt := 114) dX6_pattern_110 (by decide) ?_
                first
                | exact key _ (by rw [fi]; exact h106.symm)
                | (rcases bI01 (kStB (fun z => S.2.2.1 (48 + (i + j - 1 - z))) 0 d j = true) with z | z
                   · exact absurd z h106
                   · exact key _ (by rw [fi]; exact z.symm))
            · exact absurd (by decide) h54
          | succ r2 ih2 =>
            intro j hj
            have key : ∀ y, y = bI (kStB (fun j => S.2.2.1 (48 + (i + N - 1 - j))) 0 d (j + 1) = true) → V E l Y_X6_pattern (xQm E Y_X6_pattern (xN (kdPat w d) (kSum F (lf + 1 - N)) S m x n K G M L) xF) (x, n, K, G, xup M m 0 0, L) (0, 0) 88 [some (.ref m), some (.int w), some (.int d), some (.int (kSum F i)), some (.int (nI i)), some (.int (kDg d j)), some (.int (bI (kStB (fun j => S.2.2.1 (48 + (i + N - 1 - j))) 0 d j = true))), some (.int (nI (r2 + 1) + (-1)))] [.int y] := by
              intro y hy
              subst hy
              refine V_ist6 dX6_pattern_88 rfl (by decide) ?_
              refine V_ild5 dX6_pattern_90 ?_
              refine V_bipush (v := 10) dX6_pattern_92 (by decide) ?_
              refine V_idiv dX6_pattern_94 (by decide) ?_
              refine V_ist5 dX6_pattern_95 rfl (by decide) ?_
              rw [pk_m1]
              refine V_inc7 dX6_pattern_97 rfl (rfl) ?_
              refine V_goto (tgt := 52) dX6_pattern_100 (by decide) ?_
              exact ih2 (j + 1) (by omega)
            have st : kStB (fun j => S.2.2.1 (48 + (i + N - 1 - j))) 0 d (j + 1) = (kStB (fun j => S.2.2.1 (48 + (i + N - 1 - j))) 0 d j && decide (S.2.2.1 (48 + (i + N - 1 - (0 + j))) = kDg d j - kDg d j / 10 * 10)) := rfl
            have ei : 48 + (i + N - 1 - (0 + j)) = 48 + i + r2 := by omega
            rw [ei] at st
            refine V_ild7 dX6_pattern_52 ?_
            refine V_if_lt (tgt := 103) dX6_pattern_54 (by decide) (fun h54 => ?_) (fun h54 => ?_)
            · exact absurd h54 (by rw [pk_m1]; exact nI_pos (by omega))
            · refine V_ild6 dX6_pattern_57 ?_
              refine V_if_eq (tgt := 87) dX6_pattern_59 (by decide) (fun h59 => ?_) (fun h59 => ?_)
              · refine V_iconst (v := 0) dX6_pattern_87 (by decide) ?_
                first
                | (have z9 := bI0.mp h59
                   exact key _ (by rw [st]; exact (bIf (fun q => z9 (Bool.and_eq_true_iff.mp q).1)).symm))
                | (have z9 := decide_eq_false h80
                   exact key _ (by rw [st, z9, Bool.and_false]; exact (bIf (fun q => absurd q (by decide))).symm))
                | exact key _ (by rw [st]; rw [bI0, Decidable.not_not] at h59; exact (bIt (Bool.and_eq_true_iff.mpr ⟨h59, decide_eq_true h80⟩)).symm)
              · refine V_ald0 dX6_pattern_62 ?_
                refine V_getR fd_X6_16 dX6_pattern_63 (by assumption) (by assumption) rfl ?_
                refine V_bipush (v := 48) dX6_pattern_66 (by decide) ?_
                refine V_ild4 dX6_pattern_68 ?_
                refine V_iadd dX6_pattern_70 ?_
                refine V_ild7 dX6_pattern_71 ?_
                refine V_iadd dX6_pattern_73 ?_
                refine V_iald (j := 48 + i + r2) dX6_pattern_74 (by assumption) (by rw [pk_m1, show (48 : Int32) + nI i = nI (48 + i) from nI_add 48 i, nI_add]) (by omega) ?_
                refine V_ild5 dX6_pattern_75 ?_
                refine V_bipush (v := 10) dX6_pattern_77 (by decide) ?_
                refine V_irem dX6_pattern_79 (by decide) ?_
                rw [hr]
                refine V_icmp_ne (tgt := 87) dX6_pattern_80 (by decide) (fun h80 => ?_) (fun h80 => ?_)
                · refine V_iconst (v := 0) dX6_pattern_87 (by decide) ?_
                  first
                  | (have z9 := bI0.mp h59
                     exact key _ (by rw [st]; exact (bIf (fun q => z9 (Bool.and_eq_true_iff.mp q).1)).symm))
                  | (have z9 := decide_eq_false h80
                     exact key _ (by rw [st, z9, Bool.and_false]; exact (bIf (fun q => absurd q (by decide))).symm))
                  | exact key _ (by rw [st]; rw [bI0, Decidable.not_not] at h59; exact (bIt (Bool.and_eq_true_iff.mpr ⟨h59, decide_eq_true h80⟩)).symm)
                · refine V_iconst (v := 1) dX6_pattern_83 (by decide) ?_
                  refine V_goto (tgt := 88) dX6_pattern_84 (by decide) ?_
                  first
                  | (have z9 := bI0.mp h59
                     exact key _ (by rw [st]; exact (bIf (fun q => z9 (Bool.and_eq_true_iff.mp q).1)).symm))
                  | (have z9 := decide_eq_false h80
                     exact key _ (by rw [st, z9, Bool.and_false]; exact (bIf (fun q => absurd q (by decide))).symm))
                  | exact key _ (by rw [st]; rw [bI0, Decidable.not_not] at h59; exact (bIt (Bool.and_eq_true_iff.mpr ⟨h59, decide_eq_true h80⟩)).symm)
        refine V_ild4 dX6_pattern_27 ?_
        refine V_ild1 dX6_pattern_29 ?_
        refine V_iadd dX6_pattern_30 ?_
        refine V_ald0 dX6_pattern_31 ?_
        refine V_getR fd_X6_16 dX6_pattern_32 (by assumption) (by assumption) rfl ?_
        refine V_bipush (v := 47) dX6_pattern_35 (by decide) ?_
        refine V_iald (j := 47) dX6_pattern_37 (by assumption) (by decide) (by decide) ?_
        refine V_icmp_gt (tgt := 122) dX6_pattern_38 (by decide) (fun h38 => ?_) (fun h38 => ?_)
        · exact absurd h38 (by rw [hr, e47, eN, nI_add]; exact nI_nlt (by omega) (by omega))
        · refine V_ild2 dX6_pattern_41 ?_
          refine V_ist5 dX6_pattern_42 rfl (by decide) ?_
          refine V_iconst (v := 1) dX6_pattern_44 (by decide) ?_
          refine V_ist6 dX6_pattern_45 rfl (by decide) ?_
          refine V_ild1 dX6_pattern_47 ?_
          refine V_iconst (v := 1) dX6_pattern_48 (by decide) ?_
          refine V_isub dX6_pattern_49 ?_
          refine V_top (w := .int (nI N + (-1))) (by rw [eN, Int32.sub_eq_add_neg]) ?_
          refine V_ist7 dX6_pattern_50 rfl (by decide) ?_
          have := inner N 0 (by omega)
          rw [show bI (kStB (fun j => S.2.2.1 (48 + (i + N - 1 - j))) 0 d 0 = true) = 1 from bIt rfl] at this
          exact this
    refine V_ald0 dX6_pattern_0 ?_
    refine V_ild1 dX6_pattern_1 ?_
    refine V_ild2 dX6_pattern_2 ?_
    refine V_cs2R lk_X6_160 cc_X6_areFates dX6_pattern_3 (c_X6_areFates w d) ft_X6_pattern_X6_areFates rfl rfl (Nat.le_of_ble_eq_true rfl) ?_
    refine V_if_eq (tgt := 13) dX6_pattern_6 (by decide) (fun h6 => ?_) (fun h6 => ?_)
    · exact absurd (bIt c) (by rw [h6]; decide)
    · refine V_iconst (v := 0) dX6_pattern_9 (by decide) ?_
      refine V_goto (tgt := 14) dX6_pattern_10 (by decide) ?_
      refine V_cv1R lk_X6_93 cc_X6_refused dX6_pattern_14 (by assumption) (c_X6_refused h0 0) ft_X6_pattern_X6_refused rfl rfl (Nat.le_of_ble_eq_true rfl) ?_
      refine V_if_eq (tgt := 22) dX6_pattern_17 (by decide) (fun h17 => ?_) (fun h17 => ?_)
      · refine V_iconst (v := 0) dX6_pattern_22 (by decide) ?_
        refine V_ist3 dX6_pattern_23 rfl (by decide) ?_
        refine V_iconst (v := 0) dX6_pattern_24 (by decide) ?_
        refine V_ist4 dX6_pattern_25 rfl (by decide) ?_
        exact outer (lf + 1 - N) 0 _ _ _ (by omega)
      · exact absurd (by decide) h17
  · have k1 : kdPat w d = 1 := by
      unfold kdPat at c ⊢
      split at c
      · next q => rw [if_pos q]
      · next q =>
        rw [if_neg q]
        split at c
        · exact absurd rfl c
        · next q2 => rw [if_neg q2]
    refine V_ald0 dX6_pattern_0 ?_
    refine V_ild1 dX6_pattern_1 ?_
    refine V_ild2 dX6_pattern_2 ?_
    refine V_cs2R lk_X6_160 cc_X6_areFates dX6_pattern_3 (c_X6_areFates w d) ft_X6_pattern_X6_areFates rfl rfl (Nat.le_of_ble_eq_true rfl) ?_
    refine V_if_eq (tgt := 13) dX6_pattern_6 (by decide) (fun h6 => ?_) (fun h6 => ?_)
    · refine V_iconst (v := 1) dX6_pattern_13 (by decide) ?_
      refine V_cv1R lk_X6_93 cc_X6_refused dX6_pattern_14 (by assumption) (c_X6_refused h0 1) ft_X6_pattern_X6_refused rfl rfl (Nat.le_of_ble_eq_true rfl) ?_
      refine V_if_eq (tgt := 22) dX6_pattern_17 (by decide) (fun h17 => ?_) (fun h17 => ?_)
      · exact absurd h17 (by decide)
      · refine V_iconst (v := 0) dX6_pattern_20 (by decide) ?_
        exact V_iret rfl dX6_pattern_21 (by decide) (by decide) (xN_b hc k1 _)
    · exact absurd (bIf c) h6
end C70

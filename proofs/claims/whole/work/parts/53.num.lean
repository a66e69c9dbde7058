/-! ===== the reference: roots, rain, what is in range, a clean row ===== -/
section P53
variable {M M' : xMem} {a b : Nat} {R R' Q : xRow} {T B : Nat}
theorem kRs_n {v r s : Nat} (hv : v ≤ 5000) (hr : r ≤ 200) (hs : s ≤ 64) : kRs (nI v) (nI r) (nI s) = nI (if v < (r + s) * (r + s) then r else r + s) := by
  have h1 : (r + s) * (r + s) ≤ 264 * 264 := Nat.mul_le_mul (by omega) (by omega)
  unfold kRs
  rw [nI_add, pk_mul]
  by_cases c : v < (r + s) * (r + s)
  · rw [if_pos (nI_lt c (by omega)), if_pos c]
  · rw [if_neg (fun q => c ((nI_ltI (by omega) (by omega)).mp q)), if_neg c]
theorem kRs_i {v r s : Nat} (h1 : r * r ≤ v) (h2 : v < (r + s + s) * (r + s + s)) : ∀ r', r' = (if v < (r + s) * (r + s) then r else r + s) → r' * r' ≤ v ∧ v < (r' + s) * (r' + s) ∧ r' ≤ r + s := by
  intro r' e
  by_cases c : v < (r + s) * (r + s)
  · rw [if_pos c] at e; subst e; exact ⟨h1, c, by omega⟩
  · rw [if_neg c] at e; subst e; exact ⟨by omega, h2, by omega⟩
/-- the class's root is the whole root -/
theorem kRoot_n {v : Nat} (hv : v ≤ 5000) : ∃ s, kRoot (nI v) = nI s ∧ s * s ≤ v ∧ v < (s + 1) * (s + 1) ∧ s ≤ 127 := by
  unfold kRoot
  obtain ⟨r1, e1⟩ : ∃ r, r = (if v < (0 + 64) * (0 + 64) then 0 else 0 + 64) := ⟨_, rfl⟩
  obtain ⟨a1, b1, c1⟩ := kRs_i (v := v) (r := 0) (s := 64) (by omega) (by omega) _ e1
  obtain ⟨r2, e2⟩ : ∃ r, r = (if v < (r1 + 32) * (r1 + 32) then r1 else r1 + 32) := ⟨_, rfl⟩
  obtain ⟨a2, b2, c2⟩ := kRs_i (s := 32) a1 (by rw [show r1 + 32 + 32 = r1 + 64 by omega]; exact b1) _ e2
  obtain ⟨r3, e3⟩ : ∃ r, r = (if v < (r2 + 16) * (r2 + 16) then r2 else r2 + 16) := ⟨_, rfl⟩
  obtain ⟨a3, b3, c3⟩ := kRs_i (s := 16) a2 (by rw [show r2 + 16 + 16 = r2 + 32 by omega]; exact b2) _ e3
  obtain ⟨r4, e4⟩ : ∃ r, r = (if v < (r3 + 8) * (r3 + 8) then r3 else r3 + 8) := ⟨_, rfl⟩
  obtain ⟨a4, b4, c4⟩ := kRs_i (s := 8) a3 (by rw [show r3 + 8 + 8 = r3 + 16 by omega]; exact b3) _ e4
  obtain ⟨r5, e5⟩ : ∃ r, r = (if v < (r4 + 4) * (r4 + 4) then r4 else r4 + 4) := ⟨_, rfl⟩
  obtain ⟨a5, b5, c5⟩ := kRs_i (s := 4) a4 (by rw [show r4 + 4 + 4 = r4 + 8 by omega]; exact b4) _ e5
  obtain ⟨r6, e6⟩ : ∃ r, r = (if v < (r5 + 2) * (r5 + 2) then r5 else r5 + 2) := ⟨_, rfl⟩
  obtain ⟨a6, b6, c6⟩ := kRs_i (s := 2) a5 (by rw [show r5 + 2 + 2 = r5 + 4 by omega]; exact b5) _ e6
  obtain ⟨r7, e7⟩ : ∃ r, r = (if v < (r6 + 1) * (r6 + 1) then r6 else r6 + 1) := ⟨_, rfl⟩
  obtain ⟨a7, b7, c7⟩ := kRs_i (s := 1) a6 (by rw [show r6 + 1 + 1 = r6 + 2 by omega]; exact b6) _ e7
  refine ⟨r7, ?_, a7, b7, by omega⟩
  rw [show kRs (nI v) 0 64 = nI r1 by rw [e1]; exact kRs_n (r := 0) (s := 64) hv (by omega) (by omega)]
  rw [show kRs (nI v) (nI r1) 32 = nI r2 by rw [e2]; exact kRs_n (s := 32) hv (by omega) (by omega)]
  rw [show kRs (nI v) (nI r2) 16 = nI r3 by rw [e3]; exact kRs_n (s := 16) hv (by omega) (by omega)]
  rw [show kRs (nI v) (nI r3) 8 = nI r4 by rw [e4]; exact kRs_n (s := 8) hv (by omega) (by omega)]
  rw [show kRs (nI v) (nI r4) 4 = nI r5 by rw [e5]; exact kRs_n (s := 4) hv (by omega) (by omega)]
  rw [show kRs (nI v) (nI r5) 2 = nI r6 by rw [e6]; exact kRs_n (s := 2) hv (by omega) (by omega)]
  rw [e7]; exact kRs_n (s := 1) hv (by omega) (by omega)
theorem rEnd_nb (h : WFr R T B) {k : Nat} (hk : k < 8) (w : Int32) : nb (rEnd R k w) 0 5000 := by
  have bo := h.2.2.2.2.2.2.2.2.2.2.1
  have lo : nb (rLow R k) 0 5000 := by
    unfold rLow
    by_cases z : k = 0
    · rw [if_pos z]; exact ⟨0, by omega, by omega, rfl⟩
    · rw [if_neg z]
      have := bo (k - 1) (by omega)
      rw [show 16 + (k - 1) = 15 + k by omega] at this
      exact this.mono (by omega) (by omega)
  have hi : nb (rHigh R k) 0 5000 := by
    unfold rHigh
    by_cases z : k = 7
    · rw [if_pos z]; exact ⟨5000, by omega, by omega, rfl⟩
    · rw [if_neg z]
      obtain ⟨j, j1, j2, j3⟩ := bo k (by omega)
      rw [j3]
      exact ⟨j - 1, by omega, by omega, pkSub (b := 1) j1⟩
  unfold rEnd
  split
  · exact lo
  split
  · obtain ⟨p, -, p2, p3⟩ := lo
    obtain ⟨q, -, q2, q3⟩ := hi
    rw [p3, q3, nI_add]
    exact ⟨(p + q) / 2, by omega, by omega, pkD _ 2 (by omega) (by decide) (by decide)⟩
  · exact hi
theorem i64lt {a b : Int32} : a.toInt64 < b.toInt64 ↔ a < b := by rw [Int64.lt_iff_toInt_lt, Int32.lt_iff_toInt_lt, Int32.toInt_toInt64, Int32.toInt_toInt64]
theorem xIn {v lo hi : Int32} : (¬ v.toInt64 < lo.toInt64 ∧ ¬ hi.toInt64 < v.toInt64) ↔ ¬ (v < lo ∨ hi < v) := by rw [i64lt, i64lt, not_or]
theorem bI_c {p q : Prop} [Decidable p] [Decidable q] (h : p ↔ q) : bI p = bI q := by
  unfold bI
  by_cases c : p
  · rw [if_pos c, if_pos (h.mp c)]
  · rw [if_neg c, if_neg (fun z => c (h.mpr z))]
end P53
section C53
variable {E : xEnv} {l : Launch} {x : Bool} {n : Nat} {K : xKnd} {G : xRef} {M : xMem} {L : xLng} {a T B : Nat}
theorem c_X6_inI {q : xS} (v lo hi : Int32) : Con E l Y_X6_in [.long v.toInt64, .long lo.toInt64, .long hi.toInt64] q (xR (some (.int (bI (¬ (v < lo ∨ hi < v))))) q) xF := by
  rw [show bI (¬ (v < lo ∨ hi < v)) = bI (¬ v.toInt64 < lo.toInt64 ∧ ¬ hi.toInt64 < v.toInt64) from (bI_c xIn).symm]
  exact c_X6_in _ _ _
theorem c_X6_root {q : xS} {v : Int32} (hv : nb v 0 5000) : Con E l Y_X6_root [.int v] q (xR (some (.int (kRoot v))) q) xF := by
  obtain ⟨u, -, hu, rfl⟩ := hv
  obtain ⟨s, e, s1, s2, s3⟩ := kRoot_n hu
  rw [e]
  have loop : ∀ (r t : Nat), r + t = s → V E l Y_X6_root (xQm E Y_X6_root (xR (some (.int (nI s))) q) xF) q (0, 0) 2 [some (.int (nI u)), some (.int (nI t))] [] := by
    intro r
    induction r with
    | zero =>
      intro t ht
      have e : t = s := by omega
      subst e
      have h2 : (t + 1) * (t + 1) ≤ 128 * 128 := Nat.mul_le_mul (by omega) (by omega)
      refine V_ild1 dX6_root_2 ?_
      refine V_iconst (v := 1) dX6_root_3 (by decide) ?_
      refine V_iadd dX6_root_4 ?_
      refine V_ild1 dX6_root_5 ?_
      refine V_iconst (v := 1) dX6_root_6 (by decide) ?_
      refine V_iadd dX6_root_7 ?_
      refine V_imul dX6_root_8 ?_
      rw [nI_1, pk_mul]
      refine V_ild0 dX6_root_9 ?_
      refine V_icmp_gt (tgt := 19) dX6_root_10 (by decide) (fun h10 => ?_) (fun h10 => ?_)
      · refine V_ild1 dX6_root_19 ?_
        exact V_iret rfl dX6_root_20 (by decide) (by decide) ⟨rfl, rfl⟩
      · exact absurd (nI_lt s2 (by omega)) h10
    | succ r ih =>
      intro t ht
      have h2 : (t + 1) * (t + 1) ≤ s * s := Nat.mul_le_mul (by omega) (by omega)
      refine V_ild1 dX6_root_2 ?_
      refine V_iconst (v := 1) dX6_root_3 (by decide) ?_
      refine V_iadd dX6_root_4 ?_
      refine V_ild1 dX6_root_5 ?_
      refine V_iconst (v := 1) dX6_root_6 (by decide) ?_
      refine V_iadd dX6_root_7 ?_
      refine V_imul dX6_root_8 ?_
      rw [nI_1, pk_mul]
      refine V_ild0 dX6_root_9 ?_
      refine V_icmp_gt (tgt := 19) dX6_root_10 (by decide) (fun h10 => ?_) (fun h10 => ?_)
      · exact absurd h10 (nI_nlt (by omega) (by omega))
      · refine V_inc1 dX6_root_13 rfl (nI_1 t) ?_
        refine V_goto (tgt := 2) dX6_root_16 (by decide) ?_
        exact ih (t + 1) (by omega)
  refine Con.mk 1 mp_X6_root rfl (ls := [some (.int (nI u)), none]) rfl (Nat.le_of_ble_eq_true rfl) ?_
  refine V_iconst (v := 0) dX6_root_0 (by decide) ?_
  refine V_ist1 dX6_root_1 rfl (by decide) ?_
  exact loop s 0 (by omega)
theorem c_X6_rainOf (h : xIs n K a 10 191) (hw : WFr (M a) T B) (w : Int32) : Con E l Y_X6_rainOf [.ref a, .int w] (x, n, K, G, M, L) (xR (some (.long (aRain (M a) w 8))) (x, n, K, G, M, L)) xF := by
  obtain ⟨N, hN⟩ : ∃ N, N = 8 := ⟨8, rfl⟩
  rw [← hN]
  have loop : ∀ (r k : Nat) (o5 o6 o7 : Option Value), r + k = N → (∀ v, o6 = some v → True) → V E l Y_X6_rainOf (xQm E Y_X6_rainOf (xR (some (.long (aRain (M a) w N))) (x, n, K, G, M, L)) xF) (x, n, K, G, M, L) (0, 0) 5 [some (.ref a), some (.int w), some (.long (aRain (M a) w k)), none, some (.int (nI k)), o5, o6, none] [] := by
    intro r
    induction r with
    | zero =>
      intro k o5 o6 o7 hk _
      have e : k = N := by omega
      subst e
      refine V_ild4 dX6_rainOf_5 ?_
      refine V_bipush (v := 8) dX6_rainOf_7 (by decide) ?_
      refine V_icmp_ge (tgt := 92) dX6_rainOf_9 (by decide) (fun h9 => ?_) (fun h9 => ?_)
      · refine V_lld2 dX6_rainOf_92 ?_
        exact V_lret rfl dX6_rainOf_93 (by decide) (by decide) ⟨rfl, rfl⟩
      · exact absurd h9 (nI_nlt (b := 8) (by omega) (by omega))
    | succ r ih =>
      intro k o5 o6 o7 hk _
      have en := rEnd_nb hw (k := k) (by omega) w
      have fin : ∀ y, y = rEnd (M a) k w → V E l Y_X6_rainOf (xQm E Y_X6_rainOf (xR (some (.long (aRain (M a) w N))) (x, n, K, G, M, L)) xF) (x, n, K, G, M, L) (0, 0) 54 [some (.ref a), some (.int w), some (.long (aRain (M a) w k)), none, some (.int (nI k)), o5, o6, none] [.int y] := by
        intro y hy
        subst hy
        have es : aRain (M a) w (k + 1) = aRain (M a) w k + (M a (23 + 3 * k)).toInt64 * (kRoot (rEnd (M a) k w)).toInt64 * (kRoot (rEnd (M a) k w)).toInt64 * (kRoot (rEnd (M a) k w)).toInt64 := by
          rw [aRain]; unfold kCube; rw [Int64.mul_assoc, Int64.mul_assoc, Int64.mul_assoc]
        have ih1 := ih (k + 1)
        rw [es] at ih1
        generalize hRE : rEnd (M a) k w = RE at *
        refine V_ist5 dX6_rainOf_54 rfl (by decide) ?_
        refine V_ild5 dX6_rainOf_56 ?_
        refine V_cs1R lk_X6_164 cc_X6_root dX6_rainOf_58 (c_X6_root en) ft_X6_rainOf_X6_root rfl rfl (Nat.le_of_ble_eq_true rfl) ?_
        refine V_i2l dX6_rainOf_61 ?_
        refine V_lst6 dX6_rainOf_62 rfl (by decide) ?_
        refine V_lld2 dX6_rainOf_64 ?_
        refine V_ald0 dX6_rainOf_65 ?_
        refine V_bipush (v := 23) dX6_rainOf_66 (by decide) ?_
        refine V_iconst (v := 3) dX6_rainOf_68 (by decide) ?_
        refine V_ild4 dX6_rainOf_69 ?_
        refine V_imul dX6_rainOf_71 ?_
        refine V_iadd dX6_rainOf_72 ?_
        refine V_iald (j := 23 + 3 * k) dX6_rainOf_73 (by assumption) kI_23 (by omega) ?_
        refine V_i2l dX6_rainOf_74 ?_
        refine V_lld6 dX6_rainOf_75 ?_
        refine V_lmul dX6_rainOf_77 ?_
        refine V_lld6 dX6_rainOf_78 ?_
        refine V_lmul dX6_rainOf_80 ?_
        refine V_lld6 dX6_rainOf_81 ?_
        refine V_lmul dX6_rainOf_83 ?_
        refine V_ladd dX6_rainOf_84 ?_
        refine V_lst2 dX6_rainOf_85 rfl (by decide) ?_
        refine V_inc4 dX6_rainOf_86 rfl (nI_1 k) ?_
        refine V_goto (tgt := 5) dX6_rainOf_89 (by decide) ?_
        exact ih1 _ _ none (by omega) (fun _ _ => trivial)
      refine V_ild4 dX6_rainOf_5 ?_
      refine V_bipush (v := 8) dX6_rainOf_7 (by decide) ?_
      refine V_icmp_ge (tgt := 92) dX6_rainOf_9 (by decide) (fun h9 => ?_) (fun h9 => ?_)
      · exact absurd (nI_lt (b := 8) (by omega) (by decide)) h9
      · refine V_ild1 dX6_rainOf_12 ?_
        refine V_if_ne (tgt := 25) dX6_rainOf_13 (by decide) (fun h13 => ?_) (fun h13 => ?_)
        · refine V_ild1 dX6_rainOf_25 ?_
          refine V_iconst (v := 1) dX6_rainOf_26 (by decide) ?_
          refine V_icmp_ne (tgt := 48) dX6_rainOf_27 (by decide) (fun h27 => ?_) (fun h27 => ?_)
          · refine V_ald0 dX6_rainOf_48 ?_
            refine V_ild4 dX6_rainOf_49 ?_
            refine V_cs2R lk_X6_149 cc_X6_high dX6_rainOf_51 (c_X6_high h (k := k) (by omega)) ft_X6_rainOf_X6_high rfl rfl (Nat.le_of_ble_eq_true rfl) ?_
            first
            | (guard_hyp h13 : w = 0; exact fin _ (by unfold rEnd; rw [if_pos h13]))
            | (guard_hyp h27 : w = 1; exact fin _ (by unfold rEnd; rw [if_neg h13, if_pos h27]))
            | exact fin _ (by unfold rEnd; rw [if_neg h13, if_neg h27])
          · refine V_ald0 dX6_rainOf_30 ?_
            refine V_ild4 dX6_rainOf_31 ?_
            refine V_cs2R lk_X6_146 cc_X6_low dX6_rainOf_33 (c_X6_low h (k := k) (by omega)) ft_X6_rainOf_X6_low rfl rfl (Nat.le_of_ble_eq_true rfl) ?_
            refine V_ald0 dX6_rainOf_36 ?_
            refine V_ild4 dX6_rainOf_37 ?_
            refine V_cs2R lk_X6_149 cc_X6_high dX6_rainOf_39 (c_X6_high h (k := k) (by omega)) ft_X6_rainOf_X6_high rfl rfl (Nat.le_of_ble_eq_true rfl) ?_
            refine V_iadd dX6_rainOf_42 ?_
            refine V_iconst (v := 2) dX6_rainOf_43 (by decide) ?_
            refine V_idiv dX6_rainOf_44 (by decide) ?_
            refine V_goto (tgt := 54) dX6_rainOf_45 (by decide) ?_
            first
            | (guard_hyp h13 : w = 0; exact fin _ (by unfold rEnd; rw [if_pos h13]))
            | (guard_hyp h27 : w = 1; exact fin _ (by unfold rEnd; rw [if_neg h13, if_pos h27]))
            | exact fin _ (by unfold rEnd; rw [if_neg h13, if_neg h27])
        · refine V_ald0 dX6_rainOf_16 ?_
          refine V_ild4 dX6_rainOf_17 ?_
          refine V_cs2R lk_X6_146 cc_X6_low dX6_rainOf_19 (c_X6_low h (k := k) (by omega)) ft_X6_rainOf_X6_low rfl rfl (Nat.le_of_ble_eq_true rfl) ?_
          refine V_goto (tgt := 54) dX6_rainOf_22 (by decide) ?_
          first
          | (guard_hyp h13 : w = 0; exact fin _ (by unfold rEnd; rw [if_pos h13]))
          | (guard_hyp h27 : w = 1; exact fin _ (by unfold rEnd; rw [if_neg h13, if_pos h27]))
          | exact fin _ (by unfold rEnd; rw [if_neg h13, if_neg h27])
  refine Con.mk 6 mp_X6_rainOf rfl (ls := [some (.ref a), some (.int w), none, none, none, none, none, none]) rfl (Nat.le_of_ble_eq_true rfl) ?_
  refine V_lconst (v := 0) dX6_rainOf_0 (by decide) ?_
  refine V_lst2 dX6_rainOf_1 rfl (by decide) ?_
  refine V_iconst (v := 0) dX6_rainOf_2 (by decide) ?_
  refine V_ist4 dX6_rainOf_3 rfl (by decide) ?_
  exact loop N 0 none none none (by omega) (fun _ _ => trivial)
theorem c_X6_isBin {q : xS} (k : Int32) : Con E l Y_X6_isBin [.int k] q (xR (some (.int (bI (¬ (k < 0 ∨ 7 < k))))) q) xF := by
  refine Con.mk 0 mp_X6_isBin rfl (ls := [some (.int k)]) rfl (Nat.le_of_ble_eq_true rfl) ?_
  refine V_ild0 dX6_isBin_0 ?_
  refine V_i2l dX6_isBin_1 ?_
  refine V_lconst (v := 0) dX6_isBin_2 (by decide) ?_
  refine V_ldc2 dX6_isBin_3 mk_X6_141 ?_
  refine V_cs3R lk_X6_86 cc_X6_in dX6_isBin_6 (c_X6_inI k 0 7) ft_X6_isBin_X6_in rfl rfl (Nat.le_of_ble_eq_true rfl) ?_
  exact V_zret rfl dX6_isBin_9 (bI01 _) (by decide) (by decide) ⟨rfl, rfl⟩
theorem c_X6_isDrop {q : xS} (t z : Int32) : Con E l Y_X6_isDrop [.int t, .int z] q (xR (some (.int (bI (kdFall t z = 0)))) q) xF := by
  have key : (¬ (t < 0 ∨ 99 < t) ∧ ¬ (z < 1 ∨ 60 < z)) ↔ kdFall t z = 0 := by
    unfold kdFall
    constructor
    · intro q; rw [if_pos q]
    · intro q; split at q; assumption; exact absurd q (by decide)
  rw [← bI_c key]
  refine Con.mk 0 mp_X6_isDrop rfl (ls := [some (.int t), some (.int z)]) rfl (Nat.le_of_ble_eq_true rfl) ?_
  refine V_ild0 dX6_isDrop_0 ?_
  refine V_i2l dX6_isDrop_1 ?_
  refine V_lconst (v := 0) dX6_isDrop_2 (by decide) ?_
  refine V_ldc2 dX6_isDrop_3 mk_X6_173 ?_
  refine V_cs3R lk_X6_86 cc_X6_in dX6_isDrop_6 (c_X6_inI t 0 99) ft_X6_isDrop_X6_in rfl rfl (Nat.le_of_ble_eq_true rfl) ?_
  refine V_if_eq (tgt := 28) dX6_isDrop_9 (by decide) (fun h9 => ?_) (fun h9 => ?_)
  · refine V_iconst (v := 0) dX6_isDrop_28 (by decide) ?_
    exact V_zret rfl dX6_isDrop_29 (Or.inl rfl) (by decide) (by decide) (by
  refine ⟨?_, rfl⟩
  first
  | exact congrArg (fun z => some (Value.int z)) (bIt ⟨h9, h21⟩).symm
  | exact congrArg (fun z => some (Value.int z)) (bIf (fun q => bI0.mp h21 q.2)).symm
  | exact congrArg (fun z => some (Value.int z)) (bIf (fun q => bI0.mp h9 q.1)).symm)
  · rw [bI0, Decidable.not_not] at h9
    refine V_ild1 dX6_isDrop_12 ?_
    refine V_i2l dX6_isDrop_13 ?_
    refine V_lconst (v := 1) dX6_isDrop_14 (by decide) ?_
    refine V_ldc2 dX6_isDrop_15 mk_X6_175 ?_
    refine V_cs3R lk_X6_86 cc_X6_in dX6_isDrop_18 (c_X6_inI z 1 60) ft_X6_isDrop_X6_in rfl rfl (Nat.le_of_ble_eq_true rfl) ?_
    refine V_if_eq (tgt := 28) dX6_isDrop_21 (by decide) (fun h21 => ?_) (fun h21 => ?_)
    · refine V_iconst (v := 0) dX6_isDrop_28 (by decide) ?_
      exact V_zret rfl dX6_isDrop_29 (Or.inl rfl) (by decide) (by decide) (by
  refine ⟨?_, rfl⟩
  first
  | exact congrArg (fun z => some (Value.int z)) (bIt ⟨h9, h21⟩).symm
  | exact congrArg (fun z => some (Value.int z)) (bIf (fun q => bI0.mp h21 q.2)).symm
  | exact congrArg (fun z => some (Value.int z)) (bIf (fun q => bI0.mp h9 q.1)).symm)
    · rw [bI0, Decidable.not_not] at h21
      refine V_iconst (v := 1) dX6_isDrop_24 (by decide) ?_
      refine V_goto (tgt := 29) dX6_isDrop_25 (by decide) ?_
      exact V_zret rfl dX6_isDrop_29 (Or.inr rfl) (by decide) (by decide) (by
  refine ⟨?_, rfl⟩
  first
  | exact congrArg (fun z => some (Value.int z)) (bIt ⟨h9, h21⟩).symm
  | exact congrArg (fun z => some (Value.int z)) (bIf (fun q => bI0.mp h21 q.2)).symm
  | exact congrArg (fun z => some (Value.int z)) (bIf (fun q => bI0.mp h9 q.1)).symm)
theorem c_X6_least {q : xS} {k : Nat} (hk : k ≤ 4) : Con E l Y_X6_least [.int (nI k)] q (xR (some (.int (xLeast k))) q) xF := by
  have hc : k = 0 ∨ k = 1 ∨ k = 2 ∨ k = 3 ∨ k = 4 := by omega
  refine Con.mk 0 mp_X6_least rfl (ls := [some (.int (nI k))]) rfl (Nat.le_of_ble_eq_true rfl) ?_
  rcases hc with rfl | rfl | rfl | rfl | rfl
  all_goals
    refine V_ild0 dX6_least_0 ?_
    refine V_iconst (v := 4) dX6_least_1 (by decide) ?_
    refine V_icmp_ne (tgt := 11) dX6_least_2 (by decide) (fun h2 => ?_) (fun h2 => ?_)
    · refine V_ild0 dX6_least_11 ?_
      refine V_iconst (v := 2) dX6_least_12 (by decide) ?_
      refine V_icmp_eq (tgt := 21) dX6_least_13 (by decide) (fun h13 => ?_) (fun h13 => ?_)
      · refine V_iconst (v := 1) dX6_least_21 (by decide) ?_
        refine V_goto (tgt := 26) dX6_least_22 (by decide) ?_
        exact V_iret rfl dX6_least_26 (by decide) (by decide) (by
  first
  | exact ⟨rfl, rfl⟩
  | exact absurd h2 (by decide)
  | exact absurd h13 (by decide)
  | exact absurd h18 (by decide)
  | exact absurd rfl h2
  | exact absurd rfl h13
  | exact absurd rfl h18)
      · refine V_ild0 dX6_least_16 ?_
        refine V_iconst (v := 3) dX6_least_17 (by decide) ?_
        refine V_icmp_ne (tgt := 25) dX6_least_18 (by decide) (fun h18 => ?_) (fun h18 => ?_)
        · refine V_iconst (v := 0) dX6_least_25 (by decide) ?_
          exact V_iret rfl dX6_least_26 (by decide) (by decide) (by
  first
  | exact ⟨rfl, rfl⟩
  | exact absurd h2 (by decide)
  | exact absurd h13 (by decide)
  | exact absurd h18 (by decide)
  | exact absurd rfl h2
  | exact absurd rfl h13
  | exact absurd rfl h18)
        · refine V_iconst (v := 1) dX6_least_21 (by decide) ?_
          refine V_goto (tgt := 26) dX6_least_22 (by decide) ?_
          exact V_iret rfl dX6_least_26 (by decide) (by decide) (by
  first
  | exact ⟨rfl, rfl⟩
  | exact absurd h2 (by decide)
  | exact absurd h13 (by decide)
  | exact absurd h18 (by decide)
  | exact absurd rfl h2
  | exact absurd rfl h13
  | exact absurd rfl h18)
    · refine V_sipush (v := 500) dX6_least_5 (by decide) ?_
      refine V_goto (tgt := 26) dX6_least_8 (by decide) ?_
      exact V_iret rfl dX6_least_26 (by decide) (by decide) (by
  first
  | exact ⟨rfl, rfl⟩
  | exact absurd h2 (by decide)
  | exact absurd h13 (by decide)
  | exact absurd h18 (by decide)
  | exact absurd rfl h2
  | exact absurd rfl h13
  | exact absurd rfl h18)
theorem c_X6_most {q : xS} {k : Nat} (hk : k ≤ 4) : Con E l Y_X6_most [.int (nI k)] q (xR (some (.int (xGreatest k))) q) xF := by
  have hc : k = 0 ∨ k = 1 ∨ k = 2 ∨ k = 3 ∨ k = 4 := by omega
  refine Con.mk 0 mp_X6_most rfl (ls := [some (.int (nI k))]) rfl (Nat.le_of_ble_eq_true rfl) ?_
  rcases hc with rfl | rfl | rfl | rfl | rfl
  all_goals
    refine V_ild0 dX6_most_0 ?_
    refine V_if_ne (tgt := 9) dX6_most_1 (by decide) (fun h1 => ?_) (fun h1 => ?_)
    · refine V_ild0 dX6_most_9 ?_
      refine V_iconst (v := 1) dX6_most_10 (by decide) ?_
      refine V_icmp_ne (tgt := 19) dX6_most_11 (by decide) (fun h11 => ?_) (fun h11 => ?_)
      · refine V_ild0 dX6_most_19 ?_
        refine V_iconst (v := 2) dX6_most_20 (by decide) ?_
        refine V_icmp_ne (tgt := 29) dX6_most_21 (by decide) (fun h21 => ?_) (fun h21 => ?_)
        · refine V_ild0 dX6_most_29 ?_
          refine V_iconst (v := 3) dX6_most_30 (by decide) ?_
          refine V_icmp_ne (tgt := 40) dX6_most_31 (by decide) (fun h31 => ?_) (fun h31 => ?_)
          · refine V_sipush (v := 5000) dX6_most_40 (by decide) ?_
            exact V_iret rfl dX6_most_43 (by decide) (by decide) (by
  first
  | exact ⟨rfl, rfl⟩
  | exact absurd h1 (by decide)
  | exact absurd h11 (by decide)
  | exact absurd h21 (by decide)
  | exact absurd h31 (by decide)
  | exact absurd rfl h1
  | exact absurd rfl h11
  | exact absurd rfl h21
  | exact absurd rfl h31)
          · refine V_sipush (v := 200) dX6_most_34 (by decide) ?_
            refine V_goto (tgt := 43) dX6_most_37 (by decide) ?_
            exact V_iret rfl dX6_most_43 (by decide) (by decide) (by
  first
  | exact ⟨rfl, rfl⟩
  | exact absurd h1 (by decide)
  | exact absurd h11 (by decide)
  | exact absurd h21 (by decide)
  | exact absurd h31 (by decide)
  | exact absurd rfl h1
  | exact absurd rfl h11
  | exact absurd rfl h21
  | exact absurd rfl h31)
        · refine V_bipush (v := 9) dX6_most_24 (by decide) ?_
          refine V_goto (tgt := 43) dX6_most_26 (by decide) ?_
          exact V_iret rfl dX6_most_43 (by decide) (by decide) (by
  first
  | exact ⟨rfl, rfl⟩
  | exact absurd h1 (by decide)
  | exact absurd h11 (by decide)
  | exact absurd h21 (by decide)
  | exact absurd h31 (by decide)
  | exact absurd rfl h1
  | exact absurd rfl h11
  | exact absurd rfl h21
  | exact absurd rfl h31)
      · refine V_bipush (v := 20) dX6_most_14 (by decide) ?_
        refine V_goto (tgt := 43) dX6_most_16 (by decide) ?_
        exact V_iret rfl dX6_most_43 (by decide) (by decide) (by
  first
  | exact ⟨rfl, rfl⟩
  | exact absurd h1 (by decide)
  | exact absurd h11 (by decide)
  | exact absurd h21 (by decide)
  | exact absurd h31 (by decide)
  | exact absurd rfl h1
  | exact absurd rfl h11
  | exact absurd rfl h21
  | exact absurd rfl h31)
    · refine V_bipush (v := 40) dX6_most_4 (by decide) ?_
      refine V_goto (tgt := 43) dX6_most_6 (by decide) ?_
      exact V_iret rfl dX6_most_43 (by decide) (by decide) (by
  first
  | exact ⟨rfl, rfl⟩
  | exact absurd h1 (by decide)
  | exact absurd h11 (by decide)
  | exact absurd h21 (by decide)
  | exact absurd h31 (by decide)
  | exact absurd rfl h1
  | exact absurd rfl h11
  | exact absurd rfl h21
  | exact absurd rfl h31)
theorem c_X6_isSetting {q : xS} (w v : Int32) : Con E l Y_X6_isSetting [.int w, .int v] q (xR (some (.int (bI (kdSet w v = 0)))) q) xF := by
  have key : (¬ (w < 0 ∨ 4 < w) ∧ ¬ (v < xLeast w.toNatClampNeg ∨ xGreatest w.toNatClampNeg < v)) ↔ kdSet w v = 0 := by
    unfold kdSet
    constructor
    · intro q; rw [if_pos q]
    · intro q; split at q; assumption; exact absurd q (by decide)
  rw [← bI_c key]
  refine Con.mk 0 mp_X6_isSetting rfl (ls := [some (.int w), some (.int v)]) rfl (Nat.le_of_ble_eq_true rfl) ?_
  refine V_ild0 dX6_isSetting_0 ?_
  refine V_i2l dX6_isSetting_1 ?_
  refine V_lconst (v := 0) dX6_isSetting_2 (by decide) ?_
  refine V_ldc2 dX6_isSetting_3 mk_X6_139 ?_
  refine V_cs3R lk_X6_86 cc_X6_in dX6_isSetting_6 (c_X6_inI w 0 4) ft_X6_isSetting_X6_in rfl rfl (Nat.le_of_ble_eq_true rfl) ?_
  refine V_if_eq (tgt := 34) dX6_isSetting_9 (by decide) (fun h9 => ?_) (fun h9 => ?_)
  · refine V_iconst (v := 0) dX6_isSetting_34 (by decide) ?_
    exact V_zret rfl dX6_isSetting_35 (Or.inl rfl) (by decide) (by decide) (by
  refine ⟨?_, rfl⟩
  first
  | exact congrArg (fun z => some (Value.int z)) (bIt ⟨h9, by rw [ek]; exact h27⟩).symm
  | exact congrArg (fun z => some (Value.int z)) (bIf (fun q => bI0.mp h27 (by have := q.2; rwa [ek] at this))).symm
  | exact congrArg (fun z => some (Value.int z)) (bIf (fun q => bI0.mp h9 q.1)).symm)
  · rw [bI0, Decidable.not_not] at h9
    have h9' := h9
    rw [not_or] at h9'
    obtain ⟨k, hk, rfl⟩ := xIdx (N := 4) (by decide) h9'.1 h9'.2
    have ek : (nI k).toNatClampNeg = k := nI_clamp (by omega)
    refine V_ild1 dX6_isSetting_12 ?_
    refine V_i2l dX6_isSetting_13 ?_
    refine V_ild0 dX6_isSetting_14 ?_
    refine V_cs1R lk_X6_183 cc_X6_least dX6_isSetting_15 (c_X6_least hk) ft_X6_isSetting_X6_least rfl rfl (Nat.le_of_ble_eq_true rfl) ?_
    refine V_i2l dX6_isSetting_18 ?_
    refine V_ild0 dX6_isSetting_19 ?_
    refine V_cs1R lk_X6_186 cc_X6_most dX6_isSetting_20 (c_X6_most hk) ft_X6_isSetting_X6_most rfl rfl (Nat.le_of_ble_eq_true rfl) ?_
    refine V_i2l dX6_isSetting_23 ?_
    refine V_cs3R lk_X6_86 cc_X6_in dX6_isSetting_24 (c_X6_inI v _ _) ft_X6_isSetting_X6_in rfl rfl (Nat.le_of_ble_eq_true rfl) ?_
    refine V_if_eq (tgt := 34) dX6_isSetting_27 (by decide) (fun h27 => ?_) (fun h27 => ?_)
    · refine V_iconst (v := 0) dX6_isSetting_34 (by decide) ?_
      exact V_zret rfl dX6_isSetting_35 (Or.inl rfl) (by decide) (by decide) (by
  refine ⟨?_, rfl⟩
  first
  | exact congrArg (fun z => some (Value.int z)) (bIt ⟨h9, by rw [ek]; exact h27⟩).symm
  | exact congrArg (fun z => some (Value.int z)) (bIf (fun q => bI0.mp h27 (by have := q.2; rwa [ek] at this))).symm
  | exact congrArg (fun z => some (Value.int z)) (bIf (fun q => bI0.mp h9 q.1)).symm)
    · rw [bI0, Decidable.not_not] at h27
      refine V_iconst (v := 1) dX6_isSetting_30 (by decide) ?_
      refine V_goto (tgt := 35) dX6_isSetting_31 (by decide) ?_
      exact V_zret rfl dX6_isSetting_35 (Or.inr rfl) (by decide) (by decide) (by
  refine ⟨?_, rfl⟩
  first
  | exact congrArg (fun z => some (Value.int z)) (bIt ⟨h9, by rw [ek]; exact h27⟩).symm
  | exact congrArg (fun z => some (Value.int z)) (bIf (fun q => bI0.mp h27 (by have := q.2; rwa [ek] at this))).symm
  | exact congrArg (fun z => some (Value.int z)) (bIf (fun q => bI0.mp h9 q.1)).symm)
end C53

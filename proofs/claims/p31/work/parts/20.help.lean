/-! ===== the class: helpers and LastNumbers ===== -/
def bI (P : Prop) [Decidable P] : Int32 := if P then 1 else 0
def kSum (f : Nat → Int32) : Nat → Int32
  | 0 => 0
  | n + 1 => kSum f n + f n
/-- the first n of a row copied into another -/
def xcp (M : xMem) (a b n : Nat) : xMem := fun k i => if k = b ∧ i < n then M a i else M k i
def xcl (M : xMem) (b n : Nat) : xMem := fun k i => if k = b ∧ i < n then 0 else M k i
def kRs (v r s : Int32) : Int32 := if v < (r + s) * (r + s) then r else r + s
def kRoot (v : Int32) : Int32 := kRs v (kRs v (kRs v (kRs v (kRs v (kRs v (kRs v 0 64) 32) 16) 8) 4) 2) 1
def kCube (s : Int32) : Int64 := s.toInt64 * s.toInt64 * s.toInt64
theorem bI0 {p : Prop} [Decidable p] : bI p = 0 ↔ ¬ p := by unfold bI; by_cases h : p <;> simp [h]
theorem bI1 {p : Prop} [Decidable p] : bI p = 1 ↔ p := by unfold bI; by_cases h : p <;> simp [h]
theorem bIt {p : Prop} [Decidable p] (h : p) : bI p = 1 := by simp [bI, h]
theorem bIf {p : Prop} [Decidable p] (h : ¬ p) : bI p = 0 := by simp [bI, h]
theorem bI01 (p : Prop) [Decidable p] : bI p = 0 ∨ bI p = 1 := by unfold bI; by_cases h : p <;> simp [h]
theorem xcp_0 {M : xMem} {a b : Nat} : xcp M a b 0 = M := by funext k i; simp [xcp]
theorem xcp_step {M : xMem} {a b i : Nat} (h : a ≠ b) : xup (xcp M a b i) b i (xcp M a b i a i) = xcp M a b (i + 1) := by
  funext k j
  simp only [xup, xcp]
  by_cases e1 : k = b
  · subst e1
    by_cases e2 : j = i
    · subst e2; simp [h]
    · have : (j < i + 1) ↔ (j < i) := by omega
      simp [e2, this]
  · simp [e1]
theorem xcl_0 {M : xMem} {b : Nat} : xcl M b 0 = M := by funext k i; simp [xcl]
theorem xcl_step {M : xMem} {b i : Nat} : xup (xcl M b i) b i 0 = xcl M b (i + 1) := by
  funext k j
  simp only [xup, xcl]
  by_cases e1 : k = b
  · subst e1
    by_cases e2 : j = i
    · subst e2; simp
    · have : (j < i + 1) ↔ (j < i) := by omega
      simp [e2, this]
  · simp [e1]
section C20
variable {E : xEnv} {l : Launch} {x : Bool} {n : Nat} {K : xKnd} {G : xRef} {M : xMem} {L : xLng}
theorem c_X5_isOutside {q : xS} (v a b : Int32) : Con E l Y_X5_isOutside [.int v, .int a, .int b] q (xR (some (.int (bI (v < a ∨ b < v)))) q) xF := by
  refine Con.mk 0 mp_X5_isOutside rfl (ls := [some (.int v), some (.int a), some (.int b)]) rfl (Nat.le_of_ble_eq_true rfl) ?_
  refine V_ild0 dX5_isOutside_0 ?_
  refine V_ild1 dX5_isOutside_1 ?_
  refine V_icmp_lt (tgt := 10) dX5_isOutside_2 (by decide) (fun h2 => ?_) (fun h2 => ?_)
  · refine V_iconst (v := 1) dX5_isOutside_10 (by decide) ?_
    refine V_goto (tgt := 15) dX5_isOutside_11 (by decide) ?_
    exact V_zret rfl dX5_isOutside_15 (Or.inr rfl) (by decide) (by decide) ⟨by simp [bI, *], rfl⟩
  · refine V_ild0 dX5_isOutside_5 ?_
    refine V_ild2 dX5_isOutside_6 ?_
    refine V_icmp_le (tgt := 14) dX5_isOutside_7 (by decide) (fun h7 => ?_) (fun h7 => ?_)
    · refine V_iconst (v := 0) dX5_isOutside_14 (by decide) ?_
      exact V_zret rfl dX5_isOutside_15 (Or.inl rfl) (by decide) (by decide) ⟨by simp [bI, *], rfl⟩
    · refine V_iconst (v := 1) dX5_isOutside_10 (by decide) ?_
      refine V_goto (tgt := 15) dX5_isOutside_11 (by decide) ?_
      exact V_zret rfl dX5_isOutside_15 (Or.inr rfl) (by decide) (by decide) ⟨by simp [bI, *], rfl⟩
theorem c_X5_cube {q : xS} (s : Int32) : Con E l Y_X5_cube [.int s] q (xR (some (.long (kCube s))) q) xF := by
  refine Con.mk 0 mp_X5_cube rfl (ls := [some (.int s)]) rfl (Nat.le_of_ble_eq_true rfl) ?_
  refine V_ild0 dX5_cube_0 ?_
  refine V_i2l dX5_cube_1 ?_
  refine V_ild0 dX5_cube_2 ?_
  refine V_i2l dX5_cube_3 ?_
  refine V_lmul dX5_cube_4 ?_
  refine V_ild0 dX5_cube_5 ?_
  refine V_i2l dX5_cube_6 ?_
  refine V_lmul dX5_cube_7 ?_
  exact V_lret rfl dX5_cube_8 (by decide) (by decide) ⟨rfl, rfl⟩
theorem c_X5_sumOf {a N : Nat} (h : xIs n K a 10 N) : Con E l Y_X5_sumOf [.ref a] (x, n, K, G, M, L) (xR (some (.int (kSum (M a) N))) (x, n, K, G, M, L)) xF := by
  refine Con.mk 5 mp_X5_sumOf rfl (ls := [some (.ref a), none, none, none, none, none]) rfl (Nat.le_of_ble_eq_true rfl) ?_
  have hN := h.2.2.2
  have loop : ∀ (d i : Nat) (o : Option Value), i + d = N → V E l Y_X5_sumOf (xQm E Y_X5_sumOf (xR (some (.int (kSum (M a) N))) (x, n, K, G, M, L)) xF) (x, n, K, G, M, L) (0, 0) 10 [some (.ref a), some (.int (kSum (M a) i)), some (.ref a), some (.int (nI N)), some (.int (nI i)), o] [] := by
    intro d
    induction d with
    | zero =>
      intro i o hi
      have e : i = N := by omega
      subst e
      refine V_ild4 dX5_sumOf_10 ?_
      refine V_ild3 dX5_sumOf_12 ?_
      refine V_icmp_ge (tgt := 33) dX5_sumOf_13 (by decide) (fun h13 => ?_) (fun h13 => ?_)
      · refine V_ild1 dX5_sumOf_33 ?_
        exact V_iret rfl dX5_sumOf_34 (by decide) (by decide) ⟨rfl, rfl⟩
      · exact absurd h13 (nI_nlt (Nat.le_refl i) hN)
    | succ d ih =>
      intro i o hi
      refine V_ild4 dX5_sumOf_10 ?_
      refine V_ild3 dX5_sumOf_12 ?_
      refine V_icmp_ge (tgt := 33) dX5_sumOf_13 (by decide) (fun h13 => ?_) (fun h13 => ?_)
      · exact absurd (nI_lt (by omega) hN) h13
      · refine V_ald2 dX5_sumOf_16 ?_
        refine V_ild4 dX5_sumOf_17 ?_
        refine V_iald (j := i) dX5_sumOf_19 (by assumption) rfl (by omega) ?_
        refine V_ist5 dX5_sumOf_20 rfl (by decide) ?_
        refine V_ild1 dX5_sumOf_22 ?_
        refine V_ild5 dX5_sumOf_23 ?_
        refine V_iadd dX5_sumOf_25 ?_
        refine V_ist1 dX5_sumOf_26 rfl (by decide) ?_
        refine V_inc4 dX5_sumOf_27 rfl (nI_1 i) ?_
        refine V_goto (tgt := 10) dX5_sumOf_30 (by decide) ?_
        exact ih (i + 1) _ (by omega)
  refine V_iconst (v := 0) dX5_sumOf_0 (by decide) ?_
  refine V_ist1 dX5_sumOf_1 rfl (by decide) ?_
  refine V_ald0 dX5_sumOf_2 ?_
  refine V_ast2 dX5_sumOf_3 rfl (by decide) ?_
  refine V_ald2 dX5_sumOf_4 ?_
  refine V_alen dX5_sumOf_5 (by assumption) (by decide) (by decide) ?_
  refine V_ist3 dX5_sumOf_6 rfl (by decide) ?_
  refine V_iconst (v := 0) dX5_sumOf_7 (by decide) ?_
  refine V_ist4 dX5_sumOf_8 rfl (by decide) ?_
  exact loop N 0 none (by omega)
theorem c_X5_copyRow {a b N N2 : Nat} (ha : xIs n K a 10 N) (hb : xIs n K b 10 N2) (hab : a ≠ b) (hle : N ≤ N2) : Con E l Y_X5_copyRow [.ref a, .ref b] (x, n, K, G, M, L) (xR none (x, n, K, G, xcp M a b N, L)) xF := by
  refine Con.mk 1 mp_X5_copyRow rfl (ls := [some (.ref a), some (.ref b), none]) rfl (Nat.le_of_ble_eq_true rfl) ?_
  have hN := ha.2.2.2
  have hN2 := hb.2.2.2
  have loop : ∀ (d i : Nat), i + d = N → V E l Y_X5_copyRow (xQm E Y_X5_copyRow (xR none (x, n, K, G, xcp M a b N, L)) xF) (x, n, K, G, xcp M a b i, L) (0, 0) 2 [some (.ref a), some (.ref b), some (.int (nI i))] [] := by
    intro d
    induction d with
    | zero =>
      intro i hi
      have e : i = N := by omega
      subst e
      refine V_ild2 dX5_copyRow_2 ?_
      refine V_ald0 dX5_copyRow_3 ?_
      refine V_alen dX5_copyRow_4 (by assumption) (by decide) (by decide) ?_
      refine V_icmp_ge (tgt := 26) dX5_copyRow_5 (by decide) (fun h5 => ?_) (fun h5 => ?_)
      · exact V_vret rfl dX5_copyRow_26 (by decide) (by decide) ⟨rfl, rfl⟩
      · exact absurd h5 (nI_nlt (Nat.le_refl i) hN)
    | succ d ih =>
      intro i hi
      refine V_ild2 dX5_copyRow_2 ?_
      refine V_ald0 dX5_copyRow_3 ?_
      refine V_alen dX5_copyRow_4 (by assumption) (by decide) (by decide) ?_
      refine V_icmp_ge (tgt := 26) dX5_copyRow_5 (by decide) (fun h5 => ?_) (fun h5 => ?_)
      · exact absurd (nI_lt (by omega) hN) h5
      · refine V_ild2 dX5_copyRow_8 ?_
        refine V_ald1 dX5_copyRow_9 ?_
        refine V_alen dX5_copyRow_10 (by assumption) (by decide) (by decide) ?_
        refine V_icmp_ge (tgt := 26) dX5_copyRow_11 (by decide) (fun h11 => ?_) (fun h11 => ?_)
        · exact absurd (nI_lt (by omega) hN2) h11
        · refine V_ald1 dX5_copyRow_14 ?_
          refine V_ild2 dX5_copyRow_15 ?_
          refine V_ald0 dX5_copyRow_16 ?_
          refine V_ild2 dX5_copyRow_17 ?_
          refine V_iald (j := i) dX5_copyRow_18 (by assumption) rfl (by omega) ?_
          refine V_iast (j := i) dX5_copyRow_19 (by assumption) rfl (by omega) ?_
          refine V_inc2 dX5_copyRow_20 rfl (nI_1 i) ?_
          refine V_goto (tgt := 2) dX5_copyRow_23 (by decide) ?_
          rw [show xup (xcp M a b i) b i (xcp M a b i a i) = xcp M a b (i + 1) from xcp_step hab]
          exact ih (i + 1) (by omega)
  refine V_iconst (v := 0) dX5_copyRow_0 (by decide) ?_
  refine V_ist2 dX5_copyRow_1 rfl (by decide) ?_
  have h0 := loop N 0 (by omega)
  rw [xcp_0] at h0
  exact h0
theorem c_X5_clearRow {b N : Nat} (hb : xIs n K b 10 N) : Con E l Y_X5_clearRow [.ref b] (x, n, K, G, M, L) (xR none (x, n, K, G, xcl M b N, L)) xF := by
  refine Con.mk 1 mp_X5_clearRow rfl (ls := [some (.ref b), none]) rfl (Nat.le_of_ble_eq_true rfl) ?_
  have hN := hb.2.2.2
  have loop : ∀ (d i : Nat), i + d = N → V E l Y_X5_clearRow (xQm E Y_X5_clearRow (xR none (x, n, K, G, xcl M b N, L)) xF) (x, n, K, G, xcl M b i, L) (0, 0) 2 [some (.ref b), some (.int (nI i))] [] := by
    intro d
    induction d with
    | zero =>
      intro i hi
      have e : i = N := by omega
      subst e
      refine V_ild1 dX5_clearRow_2 ?_
      refine V_ald0 dX5_clearRow_3 ?_
      refine V_alen dX5_clearRow_4 (by assumption) (by decide) (by decide) ?_
      refine V_icmp_ge (tgt := 18) dX5_clearRow_5 (by decide) (fun h5 => ?_) (fun h5 => ?_)
      · exact V_vret rfl dX5_clearRow_18 (by decide) (by decide) ⟨rfl, rfl⟩
      · exact absurd h5 (nI_nlt (Nat.le_refl i) hN)
    | succ d ih =>
      intro i hi
      refine V_ild1 dX5_clearRow_2 ?_
      refine V_ald0 dX5_clearRow_3 ?_
      refine V_alen dX5_clearRow_4 (by assumption) (by decide) (by decide) ?_
      refine V_icmp_ge (tgt := 18) dX5_clearRow_5 (by decide) (fun h5 => ?_) (fun h5 => ?_)
      · exact absurd (nI_lt (by omega) hN) h5
      · refine V_ald0 dX5_clearRow_8 ?_
        refine V_ild1 dX5_clearRow_9 ?_
        refine V_iconst (v := 0) dX5_clearRow_10 (by decide) ?_
        refine V_iast (j := i) dX5_clearRow_11 (by assumption) rfl (by omega) ?_
        refine V_inc1 dX5_clearRow_12 rfl (nI_1 i) ?_
        refine V_goto (tgt := 2) dX5_clearRow_15 (by decide) ?_
        rw [show xup (xcl M b i) b i 0 = xcl M b (i + 1) from xcl_step]
        exact ih (i + 1) (by omega)
  refine V_iconst (v := 0) dX5_clearRow_0 (by decide) ?_
  refine V_ist1 dX5_clearRow_1 rfl (by decide) ?_
  have h0 := loop N 0 (by omega)
  rw [xcl_0] at h0
  exact h0
theorem c_X5_wholeRoot {q : xS} (v : Int32) : Con E l Y_X5_wholeRoot [.int v] q (xR (some (.int (kRoot v))) q) xF := by
  refine Con.mk 2 mp_X5_wholeRoot rfl (ls := [some (.int v), none, none]) rfl (Nat.le_of_ble_eq_true rfl) ?_
  have step : ∀ (r s s2 : Int32), 0 < s → s / 2 = s2 → V E l Y_X5_wholeRoot (xQm E Y_X5_wholeRoot (xR (some (.int (kRoot v))) q) xF) q (0, 0) 5 [some (.int v), some (.int (kRs v r s)), some (.int s2)] [] → V E l Y_X5_wholeRoot (xQm E Y_X5_wholeRoot (xR (some (.int (kRoot v))) q) xF) q (0, 0) 5 [some (.int v), some (.int r), some (.int s)] [] := by
    intro r s s2 hs he kk
    subst he
    unfold kRs at kk
    refine V_ild2 dX5_wholeRoot_5 ?_
    refine V_if_le (tgt := 31) dX5_wholeRoot_6 (by decide) (fun h6 => ?_) (fun h6 => ?_)
    · exact absurd hs h6
    · refine V_ild1 dX5_wholeRoot_9 ?_
      refine V_ild2 dX5_wholeRoot_10 ?_
      refine V_iadd dX5_wholeRoot_11 ?_
      refine V_ild1 dX5_wholeRoot_12 ?_
      refine V_ild2 dX5_wholeRoot_13 ?_
      refine V_iadd dX5_wholeRoot_14 ?_
      refine V_imul dX5_wholeRoot_15 ?_
      refine V_ild0 dX5_wholeRoot_16 ?_
      refine V_icmp_gt (tgt := 24) dX5_wholeRoot_17 (by decide) (fun h17 => ?_) (fun h17 => ?_)
      · refine V_ild2 dX5_wholeRoot_24 ?_
        refine V_iconst (v := 2) dX5_wholeRoot_25 (by decide) ?_
        refine V_idiv dX5_wholeRoot_26 (by decide) ?_
        refine V_ist2 dX5_wholeRoot_27 rfl (by decide) ?_
        refine V_goto (tgt := 5) dX5_wholeRoot_28 (by decide) ?_
        simpa [h17] using kk
      · refine V_ild1 dX5_wholeRoot_20 ?_
        refine V_ild2 dX5_wholeRoot_21 ?_
        refine V_iadd dX5_wholeRoot_22 ?_
        refine V_ist1 dX5_wholeRoot_23 rfl (by decide) ?_
        refine V_ild2 dX5_wholeRoot_24 ?_
        refine V_iconst (v := 2) dX5_wholeRoot_25 (by decide) ?_
        refine V_idiv dX5_wholeRoot_26 (by decide) ?_
        refine V_ist2 dX5_wholeRoot_27 rfl (by decide) ?_
        refine V_goto (tgt := 5) dX5_wholeRoot_28 (by decide) ?_
        simpa [h17] using kk
  refine V_iconst (v := 0) dX5_wholeRoot_0 (by decide) ?_
  refine V_ist1 dX5_wholeRoot_1 rfl (by decide) ?_
  refine V_bipush (v := 64) dX5_wholeRoot_2 (by decide) ?_
  refine V_ist2 dX5_wholeRoot_4 rfl (by decide) ?_
  refine step 0 64 32 (by decide) (by decide) (step _ 32 16 (by decide) (by decide) (step _ 16 8 (by decide) (by decide) (step _ 8 4 (by decide) (by decide) (step _ 4 2 (by decide) (by decide) (step _ 2 1 (by decide) (by decide) (step _ 1 0 (by decide) (by decide) ?_))))))
  refine V_ild2 dX5_wholeRoot_5 ?_
  refine V_if_le (tgt := 31) dX5_wholeRoot_6 (by decide) (fun h6 => ?_) (fun h6 => ?_)
  · refine V_ild1 dX5_wholeRoot_31 ?_
    exact V_iret rfl dX5_wholeRoot_32 (by decide) (by decide) ⟨rfl, rfl⟩
  · exact absurd h6 (by decide)
end C20

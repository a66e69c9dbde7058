/-! ===== the reference: where it reads ===== -/
def xSpt (M : xMem) (m : Nat) (b : Bool) (p : Nat) : xMem := xup (xup M m 4 (bB b)) m 3 (nI p)
/-- a digit of the text: allowed there -/
def dOk (g : Nat → Int32) (p : Nat) (lo hi : Int32) : Bool := decide (¬ (g p - 48 < 0 ∨ 9 < g p - 48) ∧ ¬ (g p - 48 < lo ∨ hi < g p - 48))
def rDg (g : Nat → Int32) (s : Bool × Nat) (lo hi : Int32) : Bool × Nat := (s.1 && dOk g s.2 lo hi, if (s.1 && dOk g s.2 lo hi) = true then s.2 + 1 else s.2)
def rDv (g : Nat → Int32) (s : Bool × Nat) (lo hi : Int32) : Int32 := if (s.1 && dOk g s.2 lo hi) = true then g s.2 - 48 else lo
def rLoT (lo t : Int32) : Int32 := if lo - 10 * t < 0 then 0 else lo - 10 * t
def rHiT (hi t : Int32) : Int32 := if 9 < hi - 10 * t then 9 else hi - 10 * t
def rTw (g : Nat → Int32) (s : Bool × Nat) (lo hi : Int32) : Bool × Nat := rDg g (rDg g s (lo / 10) (hi / 10)) (rLoT lo (rDv g s (lo / 10) (hi / 10))) (rHiT hi (rDv g s (lo / 10) (hi / 10)))
def rTv (g : Nat → Int32) (s : Bool × Nat) (lo hi : Int32) : Int32 := 10 * rDv g s (lo / 10) (hi / 10) + rDv g (rDg g s (lo / 10) (hi / 10)) (rLoT lo (rDv g s (lo / 10) (hi / 10))) (rHiT hi (rDv g s (lo / 10) (hi / 10)))
section P68
variable {M M' : xMem} {L : xLng} {m p q k i : Nat} {b c : Bool} {R : xRow} {g : Nat → Int32} {lo hi : Int32}
theorem xSpt_4 : xSpt M m b p m 4 = bB b := by unfold xSpt; rw [xup_i (by decide), xup_s]
theorem xSpt_3 : xSpt M m b p m 3 = nI p := xup_s
theorem xSpt_o (h : k ≠ m) : xSpt M m b p k = M k := by unfold xSpt; funext z; rw [xup_k h, xup_k h]
theorem xSpt_i (h3 : i ≠ 3) (h4 : i ≠ 4) : xSpt M m b p m i = M m i := by unfold xSpt; rw [xup_i h3, xup_i h4]
theorem xSpt_t : xSpt (xSpt M m b p) m c q = xSpt M m c q := by
  funext j z; unfold xSpt xup
  by_cases e : j = m
  · by_cases e3 : z = 3
    · simp [e, e3]
    · by_cases e4 : z = 4
      · simp [e, e4]
      · simp [e, e3, e4]
  · simp [e]
theorem xSptE {x : Bool} {n : Nat} {K : xKnd} {G : xRef} {v w : Int32} (hv : v = bB b) (hw : w = nI p) : ((x, n, K, G, xup (xup M m 4 v) m 3 w, L) : xS) = (x, n, K, G, xSpt M m b p, L) := by rw [hv, hw]; rfl
theorem rDg_t (h : dOk g p lo hi = true) : rDg g (true, p) lo hi = (true, p + 1) := by simp [rDg, h]
theorem rDg_n (h : dOk g p lo hi = false) : rDg g (true, p) lo hi = (false, p) := by simp [rDg, h]
theorem rDg_f : rDg g (false, p) lo hi = (false, p) := by simp [rDg]
theorem rDv_t (h : dOk g p lo hi = true) : rDv g (true, p) lo hi = g p - 48 := by simp [rDv, h]
theorem rTw_f : rTw g (false, p) lo hi = (false, p) := by unfold rTw; rw [rDg_f, rDg_f]
theorem dOk_n {x a z : Nat} (hx : g p - 48 = nI x) (h9 : x ≤ 9) (ha : a ≤ 100) (hz : z ≤ 100) : dOk g p (nI a) (nI z) = true ↔ a ≤ x ∧ x ≤ z := by
  unfold dOk
  rw [decide_eq_true_eq, hx, not_or, not_or]
  have e1 : ¬ nI x < 0 := nI_pos (by omega)
  have e2 : ¬ (9 : Int32) < nI x := nI_nlt (a := 9) h9 (by decide)
  rw [nI_ltI (by omega) (by omega), nI_ltI (by omega) (by omega)]
  constructor
  · rintro ⟨-, q1, q2⟩; omega
  · rintro ⟨q1, q2⟩; exact ⟨⟨e1, e2⟩, by omega, by omega⟩
theorem dOk_o (h : g p - 48 < 0 ∨ 9 < g p - 48) : dOk g p lo hi = false := by
  unfold dOk; rw [decide_eq_false_iff_not]; exact fun q => q.1 h
/-- a number of two digits, read and judged -/
theorem kTw {lo hi : Nat} (hp : p < 900) (hlo : lo ≤ 99) (hhi : hi ≤ 99) :
    (kErrN g p 2 (nI lo) (nI hi) = -9 ∧ rTw g (true, p) (nI lo) (nI hi) = (true, p + 2) ∧ rTv g (true, p) (nI lo) (nI hi) = rNum g p) ∨
    ∃ e, e < 1000 ∧ kErrN g p 2 (nI lo) (nI hi) = nI e ∧ rTw g (true, p) (nI lo) (nI hi) = (false, e) := by
  have d1 : nI lo / 10 = nI (lo / 10) := pkD lo 10 (by omega) (by decide) (by decide)
  have d2 : nI hi / 10 = nI (hi / 10) := pkD hi 10 (by omega) (by decide) (by decide)
  by_cases c1 : g p - 48 < 0 ∨ 9 < g p - 48
  · refine Or.inr ⟨p, by omega, ?_, ?_⟩
    · unfold kErrN; rw [kErrGo, if_pos (show g (p + 0) - 48 < 0 ∨ 9 < g (p + 0) - 48 from c1)]; rfl
    · unfold rTw; rw [rDg_n (dOk_o c1), rDg_f]
  obtain ⟨x, x1, ex⟩ := kDig c1
  have o1 := dOk_n (a := lo / 10) (z := hi / 10) ex x1 (by omega) (by omega)
  have ex0 : g (p + 0) - 48 = nI x := ex
  have m10 : nI x * 10 = nI (x * 10) := pk_mul x 10
  have e1 : (0 : Int32) + nI x * (if (1 : Nat) = 0 then 1 else 10) = nI (x * 10) := by rw [if_neg (by decide), Int32.zero_add, m10]
  have e2 : nI (x * 10) + (if (1 : Nat) = 0 then 1 else 10) - 1 = nI (x * 10 + 9) := by
    rw [if_neg (by decide), show nI (x * 10) + 10 = nI (x * 10 + 10) from nI_add _ 10]; exact pkSub (b := 1) (by omega)
  have c2e : (nI hi < nI (x * 10) ∨ nI (x * 10 + 9) < nI lo) ↔ ¬ (lo / 10 ≤ x ∧ x ≤ hi / 10) := by
    rw [nI_ltI (by omega) (by omega), nI_ltI (by omega) (by omega)]; omega
  by_cases c2 : lo / 10 ≤ x ∧ x ≤ hi / 10
  · have t1 := o1.mpr c2
    have v1 : rDv g (true, p) (nI lo / 10) (nI hi / 10) = nI x := by rw [d1, d2, rDv_t t1, ex]
    have s1 : rDg g (true, p) (nI lo / 10) (nI hi / 10) = (true, p + 1) := by rw [d1, d2, rDg_t t1]
    have L1 : rLoT (nI lo) (nI x) = nI (lo - 10 * x) := by
      unfold rLoT
      rw [show (10 : Int32) * nI x = nI (10 * x) from pk_mul 10 x]
      by_cases z : lo < 10 * x
      · rw [if_pos (pk_sneg (by omega) z), show lo - 10 * x = 0 by omega]; rfl
      · rw [pkSub (by omega), if_neg (nI_pos (by omega))]
    have H1 : rHiT (nI hi) (nI x) = nI (if 9 < hi - 10 * x then 9 else hi - 10 * x) := by
      unfold rHiT
      rw [show (10 : Int32) * nI x = nI (10 * x) from pk_mul 10 x, pkSub (by omega)]
      by_cases z : 9 < hi - 10 * x
      · have z1 : (9 : Int32) < nI (hi - 10 * x) := nI_lt (a := 9) z (by omega)
        rw [if_pos z, if_pos z1]; rfl
      · have z1 : ¬ (9 : Int32) < nI (hi - 10 * x) := nI_nlt (a := 9) (by omega) (by decide)
        rw [if_neg z, if_neg z1]
    have n2 : ¬ (nI hi < nI (x * 10) ∨ nI (x * 10 + 9) < nI lo) := fun q => c2e.mp q c2
    have go : kErrN g p 2 (nI lo) (nI hi) = kErrGo g p (nI lo) (nI hi) 1 1 (nI (x * 10)) := by
      unfold kErrN
      rw [kErrGo, ex0, if_neg (by rw [← ex]; exact c1), e1, e2, if_neg n2]
    rw [go]
    unfold rTw rTv
    rw [v1, s1, L1, H1]
    by_cases c3 : g (p + 1) - 48 < 0 ∨ 9 < g (p + 1) - 48
    · refine Or.inr ⟨p + 1, by omega, ?_, ?_⟩
      · rw [kErrGo, if_pos c3]
      · rw [rDg_n (dOk_o c3)]
    obtain ⟨y, y1, ey⟩ := kDig c3
    have o2 := dOk_n (a := lo - 10 * x) (z := if 9 < hi - 10 * x then 9 else hi - 10 * x) ey y1 (by omega) (by split <;> omega)
    have e3 : nI (x * 10) + nI y * (if (0 : Nat) = 0 then 1 else 10) = nI (x * 10 + y) := by rw [if_pos rfl, Int32.mul_one, nI_add]
    have e4 : nI (x * 10 + y) + (if (0 : Nat) = 0 then 1 else 10) - 1 = nI (x * 10 + y) := by
      rw [if_pos rfl, nI_1]; exact pkSub (b := 1) (by omega)
    have c4e : (nI hi < nI (x * 10 + y) ∨ nI (x * 10 + y) < nI lo) ↔ ¬ (lo - 10 * x ≤ y ∧ y ≤ if 9 < hi - 10 * x then 9 else hi - 10 * x) := by
      rw [nI_ltI (by omega) (by omega), nI_ltI (by omega) (by omega)]; split <;> omega
    have ky : kErrGo g p (nI lo) (nI hi) 1 1 (nI (x * 10)) = if nI hi < nI (x * 10 + y) ∨ nI (x * 10 + y) < nI lo then nI (p + 1) else -9 := by
      rw [kErrGo, ey, if_neg (by rw [← ey]; exact c3), e3, e4]; rfl
    rw [ky]
    by_cases c4 : lo - 10 * x ≤ y ∧ y ≤ if 9 < hi - 10 * x then 9 else hi - 10 * x
    · refine Or.inl ⟨if_neg (fun q => c4e.mp q c4), rDg_t (o2.mpr c4), ?_⟩
      rw [rDv_t (o2.mpr c4)]
      unfold rNum
      rw [ex, Int32.mul_comm]
    · refine Or.inr ⟨p + 1, by omega, if_pos (c4e.mpr c4), ?_⟩
      rw [rDg_n (Bool.eq_false_iff.mpr (fun q => c4 (o2.mp q)))]
  · refine Or.inr ⟨p, by omega, ?_, ?_⟩
    · unfold kErrN
      rw [kErrGo, ex0, if_neg (by rw [← ex]; exact c1), e1, e2, if_pos (c2e.mpr c2)]; rfl
    · unfold rTw
      rw [d1, d2, rDg_n (Bool.eq_false_iff.mpr (fun q => c2 (o1.mp q))), rDg_f]
theorem kDg1 (hp : p < 900) : (kErrN g p 1 1 9 = -9 ∧ dOk g p 1 9 = true) ∨ (kErrN g p 1 1 9 = nI p ∧ dOk g p 1 9 = false) := by
  by_cases c1 : g p - 48 < 0 ∨ 9 < g p - 48
  · exact Or.inr ⟨by unfold kErrN; rw [kErrGo, if_pos (show g (p + 0) - 48 < 0 ∨ 9 < g (p + 0) - 48 from c1)]; rfl, dOk_o c1⟩
  obtain ⟨x, x1, ex⟩ := kDig c1
  have o1 := dOk_n (a := 1) (z := 9) ex x1 (by decide) (by decide)
  have ex0 : g (p + 0) - 48 = nI x := ex
  have e1 : (0 : Int32) + nI x * (if (0 : Nat) = 0 then 1 else 10) = nI x := by rw [if_pos rfl, Int32.zero_add, Int32.mul_one]
  have e2 : nI x + (if (0 : Nat) = 0 then 1 else 10) - 1 = nI x := by rw [if_pos rfl, nI_1]; exact pkSub (b := 1) (by omega)
  have ky : kErrN g p 1 1 9 = if 9 < nI x ∨ nI x < 1 then nI p else -9 := by
    unfold kErrN
    rw [kErrGo, ex0, if_neg (by rw [← ex]; exact c1), e1, e2]; rfl
  have ce : ((9 : Int32) < nI x ∨ nI x < 1) ↔ ¬ (1 ≤ x ∧ x ≤ 9) := by
    rw [show ((9 : Int32) < nI x) = (nI 9 < nI x) from rfl, show (nI x < (1 : Int32)) = (nI x < nI 1) from rfl, nI_ltI (by decide) (by omega), nI_ltI (by omega) (by decide)]; omega
  by_cases c : 1 ≤ x ∧ x ≤ 9
  · exact Or.inl ⟨ky.trans (if_neg (fun q => ce.mp q c)), o1.mpr c⟩
  · exact Or.inr ⟨ky.trans (if_pos (ce.mpr c)), Bool.eq_false_iff.mpr (fun q => c (o1.mp q))⟩
end P68
section C68
variable {E : xEnv} {l : Launch} {x : Bool} {n : Nat} {K : xKnd} {G : xRef} {M : xMem} {L : xLng} {a m p len T B : Nat} {b : Bool} {S : xSp}
theorem c_X6_accept (h0 : xIs n K m 6 12) (h3 : M m 3 = nI p) (h4 : M m 4 = bB b) (z : Bool) : Con E l Y_X6_accept [.ref m, .int (bB z)] (x, n, K, G, M, L) (xR none (x, n, K, G, xSpt M m (b && z) (if (b && z) = true then p + 1 else p), L)) xF := by
  refine Con.mk 0 mp_X6_accept rfl (ls := [some (.ref m), some (.int (bB z))]) rfl (Nat.le_of_ble_eq_true rfl) ?_
  cases b
  · refine V_ald0 dX6_accept_0 ?_
    refine V_ald0 dX6_accept_1 ?_
    refine V_getI fd_X6_100 dX6_accept_2 (by assumption) rfl ?_
    refine V_if_eq (tgt := 16) dX6_accept_5 (by decide) (fun h5 => ?_) (fun h5 => ?_)
    · refine V_iconst (v := 0) dX6_accept_16 (by decide) ?_
      refine V_putZ fw_X6_100 dX6_accept_17 (by assumption) (Or.inl rfl) rfl ?_
      refine V_ald0 dX6_accept_20 ?_
      refine V_dup dX6_accept_21 rfl ?_
      refine V_getI fd_X6_97 dX6_accept_22 (by assumption) rfl ?_
      refine V_ald0 dX6_accept_25 ?_
      refine V_getI fd_X6_100 dX6_accept_26 (by assumption) rfl ?_
      refine V_if_eq (tgt := 36) dX6_accept_29 (by decide) (fun h29 => ?_) (fun h29 => ?_)
      · refine V_iconst (v := 0) dX6_accept_36 (by decide) ?_
        rw [xup_i (by decide), h3]
        refine V_iadd dX6_accept_37 ?_
        refine V_putI fw_X6_97 dX6_accept_38 (by assumption) rfl ?_
        exact V_vret rfl dX6_accept_41 (by decide) (by decide) ⟨rfl, xSptE rfl (Int32.add_zero _)⟩
      · exact absurd xup_s h29
    · exact absurd h4 h5
  · have g4 : M m 4 = 1 := h4
    cases z
    · refine V_ald0 dX6_accept_0 ?_
      refine V_ald0 dX6_accept_1 ?_
      refine V_getI fd_X6_100 dX6_accept_2 (by assumption) rfl ?_
      refine V_if_eq (tgt := 16) dX6_accept_5 (by decide) (fun h5 => ?_) (fun h5 => ?_)
      · exact absurd (g4.symm.trans h5) (by decide)
      · refine V_ild1 dX6_accept_8 ?_
        refine V_if_eq (tgt := 16) dX6_accept_9 (by decide) (fun h9 => ?_) (fun h9 => ?_)
        · refine V_iconst (v := 0) dX6_accept_16 (by decide) ?_
          refine V_putZ fw_X6_100 dX6_accept_17 (by assumption) (Or.inl rfl) rfl ?_
          refine V_ald0 dX6_accept_20 ?_
          refine V_dup dX6_accept_21 rfl ?_
          refine V_getI fd_X6_97 dX6_accept_22 (by assumption) rfl ?_
          refine V_ald0 dX6_accept_25 ?_
          refine V_getI fd_X6_100 dX6_accept_26 (by assumption) rfl ?_
          refine V_if_eq (tgt := 36) dX6_accept_29 (by decide) (fun h29 => ?_) (fun h29 => ?_)
          · refine V_iconst (v := 0) dX6_accept_36 (by decide) ?_
            rw [xup_i (by decide), h3]
            refine V_iadd dX6_accept_37 ?_
            refine V_putI fw_X6_97 dX6_accept_38 (by assumption) rfl ?_
            exact V_vret rfl dX6_accept_41 (by decide) (by decide) ⟨rfl, xSptE rfl (Int32.add_zero _)⟩
          · exact absurd xup_s h29
        · exact absurd rfl h9
    · refine V_ald0 dX6_accept_0 ?_
      refine V_ald0 dX6_accept_1 ?_
      refine V_getI fd_X6_100 dX6_accept_2 (by assumption) rfl ?_
      refine V_if_eq (tgt := 16) dX6_accept_5 (by decide) (fun h5 => ?_) (fun h5 => ?_)
      · exact absurd (g4.symm.trans h5) (by decide)
      · refine V_ild1 dX6_accept_8 ?_
        refine V_if_eq (tgt := 16) dX6_accept_9 (by decide) (fun h9 => ?_) (fun h9 => ?_)
        · exact absurd h9 (by decide)
        · refine V_iconst (v := 1) dX6_accept_12 (by decide) ?_
          refine V_goto (tgt := 17) dX6_accept_13 (by decide) ?_
          refine V_putZ fw_X6_100 dX6_accept_17 (by assumption) (Or.inr rfl) rfl ?_
          refine V_ald0 dX6_accept_20 ?_
          refine V_dup dX6_accept_21 rfl ?_
          refine V_getI fd_X6_97 dX6_accept_22 (by assumption) rfl ?_
          refine V_ald0 dX6_accept_25 ?_
          refine V_getI fd_X6_100 dX6_accept_26 (by assumption) rfl ?_
          refine V_if_eq (tgt := 36) dX6_accept_29 (by decide) (fun h29 => ?_) (fun h29 => ?_)
          · exact absurd (xup_s.symm.trans h29) (by decide)
          · refine V_iconst (v := 1) dX6_accept_32 (by decide) ?_
            refine V_goto (tgt := 37) dX6_accept_33 (by decide) ?_
            rw [xup_i (by decide), h3]
            refine V_iadd dX6_accept_37 ?_
            refine V_putI fw_X6_97 dX6_accept_38 (by assumption) rfl ?_
            exact V_vret rfl dX6_accept_41 (by decide) (by decide) ⟨rfl, xSptE rfl (nI_1 _)⟩
theorem c_X6_isNext (h : rM n K G m) (h3 : M m 3 = nI p) (h2 : M m 2 = nI len) (hl : len ≤ 100) (hp : p < 1000) {c : Int32} (hc : c ≠ -9) : Con E l Y_X6_isNext [.ref m, .int c] (x, n, K, G, M, L) (xR (some (.int (bI (kSg (M (m + 1)) len p = c)))) (x, n, K, G, M, L)) xF := by
  obtain ⟨h0, g1, h1, -⟩ := h
  have e : nI p < nI len ↔ p < len := nI_ltI (by omega) (by omega)
  refine Con.mk 0 mp_X6_isNext rfl (ls := [some (.ref m), some (.int c)]) rfl (Nat.le_of_ble_eq_true rfl) ?_
  by_cases q : p < len
  · have eg : kSg (M (m + 1)) len p = M (m + 1) p := if_pos q
    rw [eg]
    refine V_ald0 dX6_isNext_0 ?_
    refine V_getI fd_X6_97 dX6_isNext_1 (by assumption) rfl ?_
    refine V_ald0 dX6_isNext_4 ?_
    refine V_getI fd_X6_90 dX6_isNext_5 (by assumption) rfl ?_
    refine V_icmp_ge (tgt := 28) dX6_isNext_8 (by decide) (fun h8 => ?_) (fun h8 => ?_)
    · exact absurd (by rw [h3, h2]; exact e.mpr q) h8
    · refine V_ald0 dX6_isNext_11 ?_
      refine V_getR fd_X6_7 dX6_isNext_12 (by assumption) (by assumption) rfl ?_
      refine V_ald0 dX6_isNext_15 ?_
      refine V_getI fd_X6_97 dX6_isNext_16 (by assumption) rfl ?_
      refine V_iald (j := p) dX6_isNext_19 (by assumption) h3 (by omega) ?_
      refine V_ild1 dX6_isNext_20 ?_
      refine V_icmp_ne (tgt := 28) dX6_isNext_21 (by decide) (fun h21 => ?_) (fun h21 => ?_)
      · refine V_iconst (v := 0) dX6_isNext_28 (by decide) ?_
        exact V_zret rfl dX6_isNext_29 (Or.inl rfl) (by decide) (by decide) (by
  refine ⟨?_, rfl⟩
  first
  | exact congrArg (fun z => some (Value.int z)) (bIt h21).symm
  | exact congrArg (fun z => some (Value.int z)) (bIf h21).symm)
      · refine V_iconst (v := 1) dX6_isNext_24 (by decide) ?_
        refine V_goto (tgt := 29) dX6_isNext_25 (by decide) ?_
        exact V_zret rfl dX6_isNext_29 (Or.inr rfl) (by decide) (by decide) (by
  refine ⟨?_, rfl⟩
  first
  | exact congrArg (fun z => some (Value.int z)) (bIt h21).symm
  | exact congrArg (fun z => some (Value.int z)) (bIf h21).symm)
  · have eg : kSg (M (m + 1)) len p = -9 := if_neg q
    rw [eg, bIf (fun z => hc z.symm)]
    refine V_ald0 dX6_isNext_0 ?_
    refine V_getI fd_X6_97 dX6_isNext_1 (by assumption) rfl ?_
    refine V_ald0 dX6_isNext_4 ?_
    refine V_getI fd_X6_90 dX6_isNext_5 (by assumption) rfl ?_
    refine V_icmp_ge (tgt := 28) dX6_isNext_8 (by decide) (fun h8 => ?_) (fun h8 => ?_)
    · refine V_iconst (v := 0) dX6_isNext_28 (by decide) ?_
      exact V_zret rfl dX6_isNext_29 (Or.inl rfl) (by decide) (by decide) ⟨rfl, rfl⟩
    · exact absurd (by rw [h3, h2] at h8; exact e.mp h8) q
theorem c_X6_digit (h : rM n K G m) (h3 : M m 3 = nI p) (h4 : M m 4 = bB b) (h2 : M m 2 = nI len) (hl : len ≤ 100) (hp : p < 1000) (lo hi : Int32) : Con E l Y_X6_digit [.ref m, .int lo, .int hi] (x, n, K, G, M, L)
    (xR (some (.int (rDv (kSg (M (m + 1)) len) (b, p) lo hi))) (x, n, K, G, xSpt M m (rDg (kSg (M (m + 1)) len) (b, p) lo hi).1 (rDg (kSg (M (m + 1)) len) (b, p) lo hi).2, L)) xF := by
  obtain ⟨h0, g1, h1, -⟩ := h
  have e : nI p < nI len ↔ p < len := nI_ltI (by omega) (by omega)
  have eg : kSg (M (m + 1)) len p = if p < len then M (m + 1) p else -9 := rfl
  generalize kSg (M (m + 1)) len = g at *
  have key2 : ∀ (v : Int32) (z : Bool), z = dOk g p lo hi → (z = true → v = g p - 48) → V E l Y_X6_digit (xQm E Y_X6_digit (xR (some (.int (rDv g (b, p) lo hi))) (x, n, K, G, xSpt M m (rDg g (b, p) lo hi).1 (rDg g (b, p) lo hi).2, L)) xF) (x, n, K, G, M, L) (0, 0) 59 [some (.ref m), some (.int lo), some (.int hi), some (.int v)] [.int (bB z), .ref m] := by
    intro v z hz hv
    have e1 : (rDg g (b, p) lo hi).1 = (b && z) := by rw [hz]; rfl
    have e2 : (rDg g (b, p) lo hi).2 = if (b && z) = true then p + 1 else p := by rw [hz]; rfl
    have e3 : rDv g (b, p) lo hi = if (b && z) = true then g p - 48 else lo := by rw [hz]; rfl
    rw [e1, e2, e3]
    refine V_cv1U lk_X6_106 cc_X6_accept dX6_digit_59 (by assumption) (c_X6_accept h0 h3 h4 z) ft_X6_digit_X6_accept rfl rfl (Nat.le_of_ble_eq_true rfl) ?_
    refine V_ald0 dX6_digit_62 ?_
    refine V_getI fd_X6_100 dX6_digit_63 (by assumption) rfl ?_
    rw [xSpt_4]
    refine V_if_eq (tgt := 73) dX6_digit_66 (by decide) (fun h66 => ?_) (fun h66 => ?_)
    · refine V_ild1 dX6_digit_73 ?_
      exact V_iret rfl dX6_digit_74 (by decide) (by decide) (by
  refine ⟨?_, rfl⟩
  cases hbz : (b && z)
  · first
    | rfl
    | (rw [hbz] at h66; exact absurd rfl h66)
  · have hz1 : z = true := (Bool.and_eq_true_iff.mp hbz).2
    first
    | exact congrArg (fun z => some (Value.int z)) (hv hz1)
    | (rw [hbz] at h66; exact absurd h66 (by decide)))
    · refine V_ild3 dX6_digit_69 ?_
      refine V_goto (tgt := 74) dX6_digit_70 (by decide) ?_
      exact V_iret rfl dX6_digit_74 (by decide) (by decide) (by
  refine ⟨?_, rfl⟩
  cases hbz : (b && z)
  · first
    | rfl
    | (rw [hbz] at h66; exact absurd rfl h66)
  · have hz1 : z = true := (Bool.and_eq_true_iff.mp hbz).2
    first
    | exact congrArg (fun z => some (Value.int z)) (hv hz1)
    | (rw [hbz] at h66; exact absurd h66 (by decide)))
  have key : ∀ (v : Int32), v = (if p < len then g p - 48 else -9) → V E l Y_X6_digit (xQm E Y_X6_digit (xR (some (.int (rDv g (b, p) lo hi))) (x, n, K, G, xSpt M m (rDg g (b, p) lo hi).1 (rDg g (b, p) lo hi).2, L)) xF) (x, n, K, G, M, L) (0, 0) 28 [some (.ref m), some (.int lo), some (.int hi), none] [.int v] := by
    intro v hv
    have hd : (¬ (v < 0 ∨ 9 < v) ∧ ¬ (v < lo ∨ hi < v)) ↔ dOk g p lo hi = true := by
      unfold dOk
      rw [decide_eq_true_eq]
      by_cases q : p < len
      · rw [if_pos q] at hv; rw [hv]
      · rw [if_neg q] at hv
        have e9 : g p = -9 := by rw [eg, if_neg q]
        rw [hv, e9]
        exact ⟨fun z => absurd (Or.inl (by decide)) z.1, fun z => absurd (Or.inl (by decide)) z.1⟩
    have hv2 : dOk g p lo hi = true → v = g p - 48 := by
      intro z
      by_cases q : p < len
      · rw [if_pos q] at hv; exact hv
      · rw [if_neg q] at hv
        exact absurd (Or.inl (by rw [hv]; decide)) (hd.mpr z).1
    refine V_ist3 dX6_digit_28 rfl (by decide) ?_
    refine V_ald0 dX6_digit_29 ?_
    refine V_ild3 dX6_digit_30 ?_
    refine V_i2l dX6_digit_31 ?_
    refine V_lconst (v := 0) dX6_digit_32 (by decide) ?_
    refine V_ldc2 dX6_digit_33 mk_X6_104 ?_
    refine V_cs3R lk_X6_86 cc_X6_in dX6_digit_36 (c_X6_inI v 0 9) ft_X6_digit_X6_in rfl rfl (Nat.le_of_ble_eq_true rfl) ?_
    refine V_if_eq (tgt := 58) dX6_digit_39 (by decide) (fun h39 => ?_) (fun h39 => ?_)
    · refine V_iconst (v := 0) dX6_digit_58 (by decide) ?_
      first
      | (guard_hyp h51 : bI (¬ (v < lo ∨ hi < v)) = 0
         exact key2 v false (Bool.eq_false_iff.mpr (fun z => bI0.mp h51 (hd.mpr z).2)).symm (fun z => absurd z (by decide)))
      | (guard_hyp h51 : ¬ bI (¬ (v < lo ∨ hi < v)) = 0
         have d1 := hd.mp ⟨by rwa [bI0, Decidable.not_not] at h39, by rwa [bI0, Decidable.not_not] at h51⟩
         exact key2 v true d1.symm (fun _ => hv2 d1))
      | exact key2 v false (Bool.eq_false_iff.mpr (fun z => bI0.mp h39 (hd.mpr z).1)).symm (fun z => absurd z (by decide))
    · refine V_ild3 dX6_digit_42 ?_
      refine V_i2l dX6_digit_43 ?_
      refine V_ild1 dX6_digit_44 ?_
      refine V_i2l dX6_digit_45 ?_
      refine V_ild2 dX6_digit_46 ?_
      refine V_i2l dX6_digit_47 ?_
      refine V_cs3R lk_X6_86 cc_X6_in dX6_digit_48 (c_X6_inI v lo hi) ft_X6_digit_X6_in rfl rfl (Nat.le_of_ble_eq_true rfl) ?_
      refine V_if_eq (tgt := 58) dX6_digit_51 (by decide) (fun h51 => ?_) (fun h51 => ?_)
      · refine V_iconst (v := 0) dX6_digit_58 (by decide) ?_
        first
        | (guard_hyp h51 : bI (¬ (v < lo ∨ hi < v)) = 0
           exact key2 v false (Bool.eq_false_iff.mpr (fun z => bI0.mp h51 (hd.mpr z).2)).symm (fun z => absurd z (by decide)))
        | (guard_hyp h51 : ¬ bI (¬ (v < lo ∨ hi < v)) = 0
           have d1 := hd.mp ⟨by rwa [bI0, Decidable.not_not] at h39, by rwa [bI0, Decidable.not_not] at h51⟩
           exact key2 v true d1.symm (fun _ => hv2 d1))
        | exact key2 v false (Bool.eq_false_iff.mpr (fun z => bI0.mp h39 (hd.mpr z).1)).symm (fun z => absurd z (by decide))
      · refine V_iconst (v := 1) dX6_digit_54 (by decide) ?_
        refine V_goto (tgt := 59) dX6_digit_55 (by decide) ?_
        first
        | (guard_hyp h51 : bI (¬ (v < lo ∨ hi < v)) = 0
           exact key2 v false (Bool.eq_false_iff.mpr (fun z => bI0.mp h51 (hd.mpr z).2)).symm (fun z => absurd z (by decide)))
        | (guard_hyp h51 : ¬ bI (¬ (v < lo ∨ hi < v)) = 0
           have d1 := hd.mp ⟨by rwa [bI0, Decidable.not_not] at h39, by rwa [bI0, Decidable.not_not] at h51⟩
           exact key2 v true d1.symm (fun _ => hv2 d1))
        | exact key2 v false (Bool.eq_false_iff.mpr (fun z => bI0.mp h39 (hd.mpr z).1)).symm (fun z => absurd z (by decide))
  refine Con.mk 1 mp_X6_digit rfl (ls := [some (.ref m), some (.int lo), some (.int hi), none]) rfl (Nat.le_of_ble_eq_true rfl) ?_
  by_cases q : p < len
  · refine V_ald0 dX6_digit_0 ?_
    refine V_getI fd_X6_97 dX6_digit_1 (by assumption) rfl ?_
    refine V_ald0 dX6_digit_4 ?_
    refine V_getI fd_X6_90 dX6_digit_5 (by assumption) rfl ?_
    refine V_icmp_ge (tgt := 26) dX6_digit_8 (by decide) (fun h8 => ?_) (fun h8 => ?_)
    · exact absurd (by rw [h3, h2]; exact e.mpr q) h8
    · refine V_ald0 dX6_digit_11 ?_
      refine V_getR fd_X6_7 dX6_digit_12 (by assumption) (by assumption) rfl ?_
      refine V_ald0 dX6_digit_15 ?_
      refine V_getI fd_X6_97 dX6_digit_16 (by assumption) rfl ?_
      refine V_iald (j := p) dX6_digit_19 (by assumption) h3 (by omega) ?_
      refine V_bipush (v := 48) dX6_digit_20 (by decide) ?_
      refine V_isub dX6_digit_22 ?_
      refine V_goto (tgt := 28) dX6_digit_23 (by decide) ?_
      exact key _ (by rw [if_pos q, eg, if_pos q])
  · refine V_ald0 dX6_digit_0 ?_
    refine V_getI fd_X6_97 dX6_digit_1 (by assumption) rfl ?_
    refine V_ald0 dX6_digit_4 ?_
    refine V_getI fd_X6_90 dX6_digit_5 (by assumption) rfl ?_
    refine V_icmp_ge (tgt := 26) dX6_digit_8 (by decide) (fun h8 => ?_) (fun h8 => ?_)
    · refine V_bipush (v := (-9)) dX6_digit_26 (by decide) ?_
      exact key _ (by rw [if_neg q])
    · exact absurd (by rw [h3, h2] at h8; exact e.mp h8) q
theorem c_X6_two (h : rM n K G m) (h3 : M m 3 = nI p) (h4 : M m 4 = bB b) (h2 : M m 2 = nI len) (hl : len ≤ 100) (hp : p < 900) (lo hi : Int32) : Con E l Y_X6_two [.ref m, .int lo, .int hi] (x, n, K, G, M, L)
    (xR (some (.int (rTv (kSg (M (m + 1)) len) (b, p) lo hi))) (x, n, K, G, xSpt M m (rTw (kSg (M (m + 1)) len) (b, p) lo hi).1 (rTw (kSg (M (m + 1)) len) (b, p) lo hi).2, L)) xF := by
  have hm := h
  obtain ⟨h0, g1, h1, -⟩ := h
  have k1 := c_X6_digit (E := E) (l := l) (x := x) (L := L) hm h3 h4 h2 hl (by omega) (lo / 10) (hi / 10)
  generalize ht : rDv (kSg (M (m + 1)) len) (b, p) (lo / 10) (hi / 10) = t at *
  generalize hs : rDg (kSg (M (m + 1)) len) (b, p) (lo / 10) (hi / 10) = s at *
  have s2 : s.2 ≤ p + 1 := by rw [← hs]; unfold rDg; dsimp only; split <;> omega
  have k2 := c_X6_digit (E := E) (l := l) (x := x) (L := L) (M := xSpt M m s.1 s.2) (p := s.2) (b := s.1) hm xSpt_3 xSpt_4 (len := len) (by rw [xSpt_i (by decide) (by decide)]; exact h2) hl (by omega) (rLoT lo t) (rHiT hi t)
  rw [xSpt_o (show m + 1 ≠ m by omega), xSpt_t] at k2
  rw [show rTv (kSg (M (m + 1)) len) (b, p) lo hi = 10 * t + rDv (kSg (M (m + 1)) len) s (rLoT lo t) (rHiT hi t) by unfold rTv; rw [ht, hs], show rTw (kSg (M (m + 1)) len) (b, p) lo hi = rDg (kSg (M (m + 1)) len) s (rLoT lo t) (rHiT hi t) by unfold rTw; rw [ht, hs]]
  generalize kSg (M (m + 1)) len = g at *
  have key2 : ∀ y z, y = rLoT lo t → z = rHiT hi t → V E l Y_X6_two (xQm E Y_X6_two (xR (some (.int (10 * t + rDv g s (rLoT lo t) (rHiT hi t)))) (x, n, K, G, xSpt M m (rDg g s (rLoT lo t) (rHiT hi t)).1 (rDg g s (rLoT lo t) (rHiT hi t)).2, L)) xF) (x, n, K, G, xSpt M m s.1 s.2, L) (0, 0) 59
      [some (.ref m), some (.int lo), some (.int hi), some (.int t), some (.int (lo - 10 * t)), some (.int (hi - 10 * t))] [.int z, .int y, .ref m, .int (10 * t)] := by
    intro y z hy hz
    subst hy hz
    refine V_cv2R lk_X6_110 cc_X6_digit dX6_two_59 (by assumption) (k2) ft_X6_two_X6_digit rfl rfl (Nat.le_of_ble_eq_true rfl) ?_
    refine V_iadd dX6_two_62 ?_
    exact V_iret rfl dX6_two_63 (by decide) (by decide) ⟨rfl, rfl⟩
  have key1 : ∀ y, y = rLoT lo t → V E l Y_X6_two (xQm E Y_X6_two (xR (some (.int (10 * t + rDv g s (rLoT lo t) (rHiT hi t)))) (x, n, K, G, xSpt M m (rDg g s (rLoT lo t) (rHiT hi t)).1 (rDg g s (rLoT lo t) (rHiT hi t)).2, L)) xF) (x, n, K, G, xSpt M m s.1 s.2, L) (0, 0) 45
      [some (.ref m), some (.int lo), some (.int hi), some (.int t), some (.int (lo - 10 * t)), some (.int (hi - 10 * t))] [.int y, .ref m, .int (10 * t)] := by
    intro y hy
    refine V_ild5 dX6_two_45 ?_
    refine V_bipush (v := 9) dX6_two_47 (by decide) ?_
    refine V_icmp_le (tgt := 57) dX6_two_49 (by decide) (fun h49 => ?_) (fun h49 => ?_)
    · refine V_ild5 dX6_two_57 ?_
      first
      | exact key2 _ _ hy (if_neg h49).symm
      | exact key2 _ _ hy (if_pos h49).symm
    · refine V_bipush (v := 9) dX6_two_52 (by decide) ?_
      refine V_goto (tgt := 59) dX6_two_54 (by decide) ?_
      first
      | exact key2 _ _ hy (if_neg h49).symm
      | exact key2 _ _ hy (if_pos h49).symm
  refine Con.mk 3 mp_X6_two rfl (ls := [some (.ref m), some (.int lo), some (.int hi), none, none, none]) rfl (Nat.le_of_ble_eq_true rfl) ?_
  refine V_ald0 dX6_two_0 ?_
  refine V_ild1 dX6_two_1 ?_
  refine V_bipush (v := 10) dX6_two_2 (by decide) ?_
  refine V_idiv dX6_two_4 (by decide) ?_
  refine V_ild2 dX6_two_5 ?_
  refine V_bipush (v := 10) dX6_two_6 (by decide) ?_
  refine V_idiv dX6_two_8 (by decide) ?_
  refine V_cv2R lk_X6_110 cc_X6_digit dX6_two_9 (by assumption) (k1) ft_X6_two_X6_digit rfl rfl (Nat.le_of_ble_eq_true rfl) ?_
  refine V_ist3 dX6_two_12 rfl (by decide) ?_
  refine V_ild1 dX6_two_13 ?_
  refine V_bipush (v := 10) dX6_two_14 (by decide) ?_
  refine V_ild3 dX6_two_16 ?_
  refine V_imul dX6_two_17 ?_
  refine V_isub dX6_two_18 ?_
  refine V_ist4 dX6_two_19 rfl (by decide) ?_
  refine V_ild2 dX6_two_21 ?_
  refine V_bipush (v := 10) dX6_two_22 (by decide) ?_
  refine V_ild3 dX6_two_24 ?_
  refine V_imul dX6_two_25 ?_
  refine V_isub dX6_two_26 ?_
  refine V_ist5 dX6_two_27 rfl (by decide) ?_
  refine V_bipush (v := 10) dX6_two_29 (by decide) ?_
  refine V_ild3 dX6_two_31 ?_
  refine V_imul dX6_two_32 ?_
  refine V_ald0 dX6_two_33 ?_
  refine V_ild4 dX6_two_34 ?_
  refine V_if_ge (tgt := 43) dX6_two_36 (by decide) (fun h36 => ?_) (fun h36 => ?_)
  · refine V_ild4 dX6_two_43 ?_
    first
    | exact key1 _ (if_neg h36).symm
    | exact key1 _ (if_pos h36).symm
  · refine V_iconst (v := 0) dX6_two_39 (by decide) ?_
    refine V_goto (tgt := 45) dX6_two_40 (by decide) ?_
    first
    | exact key1 _ (if_neg h36).symm
    | exact key1 _ (if_pos h36).symm
end C68

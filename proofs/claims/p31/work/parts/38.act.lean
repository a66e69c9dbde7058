/-! ===== the whole object: actions, what would be, slots ===== -/
def rDr (R : xRow) (t z : Int32) : xRow := rDrM R (R 47).toNatClampNeg (R 108).toNatClampNeg t z
def kdFall (t z : Int32) : Nat := if ¬ (t < 0 ∨ 99 < t) ∧ ¬ (z < 1 ∨ 60 < z) then 0 else 1
def kdSet (w v : Int32) : Nat := if ¬ (w < 0 ∨ 4 < w) ∧ ¬ (v < xLeast w.toNatClampNeg ∨ xGreatest w.toNatClampNeg < v) then 0 else 1
def kdBor (R : xRow) (k v : Int32) : Nat := if k < 1 ∨ 7 < k then 1 else if v < 1 ∨ 5000 < v then 2 else if (k.toNatClampNeg = 1 ∨ R (14 + k.toNatClampNeg) < v) ∧ (k.toNatClampNeg = 7 ∨ v < R (16 + k.toNatClampNeg)) then 0 else 3
def rEmp (R : xRow) : xRow := fun i => if 23 ≤ i ∧ i < 47 then 0 else R i
def sPop (S : xSp) : xSp := (S.1, S.2.1, S.2.2.2.2.1 0, S.2.2.2.1 - 1, (fun i => S.2.2.2.2.1 (i + 1)), S.2.2.2.2.2)
def sKeep (S : xSp) (j : Nat) : xSp := (S.1, S.2.1, S.2.2.1, S.2.2.2.1, S.2.2.2.2.1, (fun i => if i = j then true else S.2.2.2.2.2.1 i), (fun i => if i = j then S.2.2.1 else S.2.2.2.2.2.2 i))
def sBack (S : xSp) (j : Nat) : xSp := (S.1, S.2.1, S.2.2.2.2.2.2 j, 0, S.2.2.2.2)
def aLst (g : Nat → Bool) : Nat → Nat → Int32
  | 0, _ => -9
  | d + 1, i => if g i = true then nI i else aLst g d (i + 1)
def aQui (g : Nat → Bool) : Nat → Nat → Nat
  | 0, i => i
  | d + 1, i => if g i = true then i else aQui g d (i + 1)
section P38
variable {M M' : xMem} {L L' : xLng} {o s p a : Nat} {R R' : xRow} {T B tl c w lf v lr : Nat} {S : xSp}
theorem xIdx1 {w : Int32} {N : Nat} (hN : N < 2 ^ 31) (h0 : ¬ w < 1) (h : ¬ nI N < w) : ∃ k, 1 ≤ k ∧ k ≤ N ∧ w = nI k := by
  obtain ⟨k, k1, rfl⟩ := xIdx hN (fun q => h0 (Int32.lt_trans q (by decide))) h
  exact ⟨k, Nat.pos_of_ne_zero fun z => h0 (by subst z; decide), k1, rfl⟩
theorem xFallN {t z : Int32} (h : ¬ (t < 0 ∨ 99 < t) ∧ ¬ (z < 1 ∨ 60 < z)) : (∃ d, d ≤ 99 ∧ t = nI d) ∧ ∃ k, 1 ≤ k ∧ k ≤ 60 ∧ z = nI k := by
  obtain ⟨h1, h2⟩ := h
  rw [not_or] at h1 h2
  exact ⟨xIdx (N := 99) (by decide) h1.1 h1.2, xIdx1 (N := 60) (by decide) h2.1 h2.2⟩
theorem Al.dr (h : Al M L s R w lf v lr) {t z : Int32} : rDr R t z = rDrM R lf lr t z := by
  have e47 := h.2.2.2.2.2.1
  have e108 := h.2.2.2.2.2.2.1
  have l60 : lf ≤ 60 := h.2.1.1.2.2.2
  have l40 : lr ≤ 40 := h.2.1.2.1.2.2.2
  unfold rDr; rw [e47, e108, nI_clamp (by omega), nI_clamp (by omega)]
theorem AlE.fall (h : AlE M L s R) (hw : WFr R T B) {d z : Nat} (hd : d ≤ 100000) (hz : 1 ≤ z ∧ z ≤ 60) (hT : T ≤ 10000000) (hB : B < 2 ^ 30) :
    ∃ w lf v lr, iAc M (s + 7) w lf v lr ∧ kRcF (kTick M (s + 1) (nI d)) (s + 1) (nI z) = nI (rDrF R (nI d) (nI z)) ∧ AlE (kFallM M s w lf v lr (nI d) (nI z) (rDrF R (nI d) (nI z))) (kEntL L (s + 7) (nI z)) s (rDr R (nI d) (nI z)) ∧ WFr (rDr R (nI d) (nI z)) (T + d) (B + 216000) := by
  obtain ⟨w, lf, v, lr, q⟩ := h
  obtain ⟨f1, f2⟩ := q.fall hw hd hz.2 hT hB
  rw [q.dr]
  exact ⟨w, lf, v, lr, q.2.1, f1, ⟨_, _, _, _, f2⟩, hw.drop hz q.2.2.2.2.2.1 q.2.2.2.2.2.2.1 q.2.1.1.2.2.2 q.2.1.2.1.2.2.2 (by omega) hB⟩
theorem kEntL_k {k i : Nat} {z : Int32} (h : k ≠ a) : kEntL L a z k i = L k i := by unfold kEntL; rw [xup_k h]
theorem kPass_k {t : Int32} {k i : Nat} (h : k < p ∨ p + 5 < k) : kPass M p t k i = M k i := by
  unfold kPass; split
  · rw [kClose_k h, kTick_k (by omega)]
  · rw [kTick_k (by omega)]
theorem AlE.pass (h : AlE M L s R) (hw : WFr R T B) {d : Nat} (hd : 1 ≤ d ∧ d ≤ 100000) : AlE (kPass M (s + 1) (nI d)) L s (rGo R (nI d)) ∧ WFr (rGo R (nI d)) (T + d) B := by
  obtain ⟨w, lf, v, lr, q⟩ := h
  refine ⟨⟨w, lf, v, lr, q.1.pass hw.2.2.2.2.2.2.1 hw.2.2.2.2.2.2.2.1 (nI_lt (a := 0) (by omega) (by omega)), ?_⟩, hw.go⟩
  exact q.2.congr (fun k i h1 h2 => kPass_k (by omega)) rfl (fun i h1 h2 => rGo_o (by omega))
theorem AlE.set (h : AlE M L s R) {k : Nat} (hk : k < 5) (x : Int32) : AlE (xup M (s + 1 + 1) k x) L s (upR R (1 + k) x) := by
  obtain ⟨w, lf, v, lr, q⟩ := h
  exact ⟨w, lf, v, lr, q.1.set hk x, q.2.congr (fun k i h1 h2 => xup_k (by omega)) rfl (fun i h1 h2 => upR_n (by omega))⟩
theorem AlE.bor (h : AlE M L s R) {k : Nat} (hk : k < 7) (x : Int32) : AlE (xup M (s + 1 + 2) (k + 1) x) L s (upR R (16 + k) x) := by
  obtain ⟨w, lf, v, lr, q⟩ := h
  exact ⟨w, lf, v, lr, q.1.bor hk x, q.2.congr (fun k i h1 h2 => xup_k (by omega)) rfl (fun i h1 h2 => upR_n (by omega))⟩
theorem WFr.set (h : WFr R T B) {k : Nat} (hk : k ≤ 4) {x : Int32} (hx : ¬ (x < xLeast k ∨ xGreatest k < x)) : WFr (upR R (1 + k) x) T B := by
  rw [not_or] at hx
  have key : ∀ (lo hi : Nat), xLeast k = nI lo → xGreatest k = nI hi → lo ≤ 500 → hi ≤ 5000 → nb x lo hi := by
    intro lo hi e1 e2 h1 h2
    rw [e1, e2] at hx
    obtain ⟨j, j1, rfl⟩ := xIdx (N := hi) (by omega) (fun q => hx.1 (by
      rcases Nat.eq_zero_or_pos lo with z | z
      · subst z; exact q
      · exact Int32.lt_trans q (nI_lt (a := 0) z (by omega)))) hx.2
    exact ⟨j, Nat.not_lt.mp fun q => hx.1 (nI_lt q (by omega)), j1, rfl⟩
  have hc : k = 0 ∨ k = 1 ∨ k = 2 ∨ k = 3 ∨ k = 4 := by omega
  rcases hc with rfl | rfl | rfl | rfl | rfl
  · exact h.up (i := 1) (by decide) (fun _ => key 0 40 rfl rfl (by decide) (by decide)) (by omega) (by omega) (by omega) (by omega) (by omega) (by omega) (by omega) (by decide)
  · exact h.up (i := 2) (by decide) (by omega) (fun _ => key 0 20 rfl rfl (by decide) (by decide)) (by omega) (by omega) (by omega) (by omega) (by omega) (by omega) (by decide)
  · exact h.up (i := 3) (by decide) (by omega) (by omega) (fun _ => key 1 9 rfl rfl (by decide) (by decide)) (by omega) (by omega) (by omega) (by omega) (by omega) (by decide)
  · exact h.up (i := 4) (by decide) (by omega) (by omega) (by omega) (fun _ => key 1 200 rfl rfl (by decide) (by decide)) (by omega) (by omega) (by omega) (by omega) (by decide)
  · exact h.up (i := 5) (by decide) (by omega) (by omega) (by omega) (by omega) (fun _ => key 500 5000 rfl rfl (by decide) (by decide)) (by omega) (by omega) (by omega) (by decide)
theorem xcl_k {b n k i : Nat} (h : k ≠ b) : xcl M b n k i = M k i := by simp [xcl, h]
theorem xcl_r {b n k i : Nat} (h : k = b) (hi : i < n) : xcl M b n k i = 0 := by unfold xcl; rw [if_pos ⟨h, hi⟩]
theorem kEmp_k {k i : Nat} (h : k < p + 3 ∨ p + 5 < k) : kEmp M p k i = M k i := by unfold kEmp; rw [xcl_k (by omega), xcl_k (by omega), xcl_k (by omega)]
theorem AlE.emp (h : AlE M L s R) : AlE (kEmp M (s + 1)) L s (rEmp R) := by
  obtain ⟨w, lf, v, lr, ⟨a0, a3, a4, a5, a6, a7, a8, st, b0, bo, n1, n2, n3⟩, q⟩ := h
  have e : ∀ i, (i < 23 ∨ 47 ≤ i) → rEmp R i = R i := fun i hi => by unfold rEmp; rw [if_neg (by omega)]
  have z : ∀ i, 23 ≤ i → i < 47 → rEmp R i = 0 := fun i h1 h2 => by unfold rEmp; rw [if_pos ⟨h1, h2⟩]
  refine ⟨w, lf, v, lr, ⟨?_, ?_, ?_, ?_, ?_, ?_, ?_, fun i hi => ?_, ?_, fun i hi => ?_, fun i hi => ?_, fun i hi => ?_, fun i hi => ?_⟩, q.congr (fun k i h1 h2 => kEmp_k (by omega)) rfl (fun i h1 h2 => e i (by omega))⟩
  · rw [kEmp_k (by omega), e _ (by omega)]; exact a0
  · rw [kEmp_k (by omega), e _ (by omega)]; exact a3
  · rw [kEmp_k (by omega), e _ (by omega)]; exact a4
  · rw [kEmp_k (by omega), e _ (by omega)]; exact a5
  · rw [kEmp_k (by omega), e _ (by omega)]; exact a6
  · rw [kEmp_k (by omega), e _ (by omega)]; exact a7
  · rw [kEmp_k (by omega), e _ (by omega)]; exact a8
  · rw [kEmp_k (by omega), e _ (by omega)]; exact st i hi
  · rw [kEmp_k (by omega)]; exact b0
  · rw [kEmp_k (by omega), e _ (by omega)]; exact bo i hi
  · unfold kEmp; rw [xcl_k (by omega), xcl_k (by omega), xcl_r rfl hi, z _ (by omega) (by omega)]
  · unfold kEmp; rw [xcl_k (by omega), xcl_r rfl hi, z _ (by omega) (by omega)]
  · unfold kEmp; rw [xcl_r rfl hi, z _ (by omega) (by omega)]
theorem WFr.emp (h : WFr R T B) : WFr (rEmp R) T B := by
  have e : ∀ i, (i < 23 ∨ 47 ≤ i) → rEmp R i = R i := fun i hi => by unfold rEmp; rw [if_neg (by omega)]
  obtain ⟨q1, q2, q3, q4, q5, q6, q7, q8, q9, q10, q11, q12, ⟨lr, l1, l2, l3⟩, q13⟩ := h
  unfold WFr
  rw [e 1 (by decide), e 2 (by decide), e 3 (by decide), e 4 (by decide), e 5 (by decide), e 10 (by decide), e 13 (by decide), e 15 (by decide), e 12 (by decide), e 0 (by decide), e 11 (by decide), e 189 (by decide), e 47 (by decide), e 108 (by decide), e 190 (by decide)]
  exact ⟨q1, q2, q3, q4, q5, q6, q7, q8, q9, q10, fun k hk => by rw [e _ (by omega)]; exact q11 k hk, q12, ⟨lr, l1, l2, fun j hj => by rw [e _ (by omega), e _ (by omega)]; exact l3 j hj⟩, q13⟩
theorem AlE.lev0 (h : AlE M L s R) (hw : WFr R T B) (hT : T ≤ 2 ^ 29) : kLev M (s + 1) (M (s + 1) 0) = rLev R (R 0) := by
  obtain ⟨w, lf, v, lr, q⟩ := h
  have := q.levw hw hT (d := 0) (by decide)
  rwa [show nI 0 = (0 : Int32) from rfl, Int32.add_zero, Int32.add_zero] at this
theorem kFate_tick {t y u : Int32} : kFate (kTick M p t) p y u = kFate M p y u := by
  unfold kFate kLev kHal kTick
  rw [xup_i (by decide), xup_i (by decide), xup_k (by omega), xup_k (by omega), xup_i (by decide), xup_k (by omega), xup_i (by decide)]
theorem AlE.wb (h : AlE M L s R) (hw : WFr R T B) {d : Nat} (hd : d ≤ 100000) (hT : T ≤ 10000000) (z : Int32) : kFate M (s + 1) (M (s + 1) 0 + nI d) (kStr M (s + 1) z) = nI (rDrF R (nI d) z) := by
  obtain ⟨w, lf, v, lr, q⟩ := h
  have hl := hw.l
  obtain ⟨q1, q2, q3, q4, q5, q6, q7, q8, q9, ⟨t0, s0, la, e1, e2, e3, e4, e5, e6⟩, q10, q11, q12, q13⟩ := hw
  have f1 := (q.1.fall q7 q8 hl e1 e2 e4 (d := d) (by omega) z).1
  unfold kRcF at f1
  rw [kFate_tick] at f1
  rw [← f1]
  unfold kStr kTick
  rw [xup_s, xup_k (by omega)]
theorem aLst_no {g : Nat → Bool} {d i : Nat} (h : ¬ g i = true) : aLst g (d + 1) i = aLst g d (i + 1) := by rw [aLst, if_neg h]
theorem CRel.pop (h : CRel M L o S) {nx : Nat} (n1 : nx < 14) (n2 : M o 5 = nI nx) (hc : 1 ≤ S.2.2.2.1) :
    CRel (kStCp (xup (xup M o 5 (nI (kMi nx 0))) o 6 (nI (S.2.2.2.1 - 1))) (o + 79 + 15 * kMi nx 0) (o + 3)) (kAcCpL L (o + 79 + 15 * kMi nx 0 + 7) (o + 3 + 7)) o (sPop S) := by
  generalize hM1 : xup (xup M o 5 (nI (kMi nx 0))) o 6 (nI (S.2.2.2.1 - 1)) = M1
  have m1 : ∀ k i, k ≠ o → M1 k i = M k i := fun k i q => by rw [← hM1, xup_k q, xup_k q]
  have m0 : ∀ i, i ≠ 5 → i ≠ 6 → M1 o i = M o i := fun i q1 q2 => by rw [← hM1, xup_i q2, xup_i q1]
  have k0 := kMi_lt n1 (i := 0) (by decide)
  obtain ⟨c0, c1, c2, c3, ⟨nx', n1', n2', n3, n4, n5⟩, c5, c6, c7, c8⟩ := h
  have en : nx' = nx := (nI_eq (by omega) (by omega)).mp (n2'.symm.trans n2)
  subst en
  have cp : AlE (kStCp M1 (o + 79 + 15 * kMi nx' 0) (o + 3)) (kAcCpL L (o + 79 + 15 * kMi nx' 0 + 7) (o + 3 + 7)) (o + 3) (S.2.2.2.2.1 0) := AlE.cp ((n5 0 (by omega)).congr (fun k i h1 h2 => m1 _ _ (by omega)) rfl) (by omega)
  generalize hM2 : kStCp M1 (o + 79 + 15 * kMi nx' 0) (o + 3) = M2 at *
  generalize hL2 : kAcCpL L (o + 79 + 15 * kMi nx' 0 + 7) (o + 3 + 7) = L2 at *
  have m2 : ∀ k i, (k ≤ o + 3 ∨ o + 3 + 14 < k) → M2 k i = M1 k i := fun k i q => by rw [← hM2]; exact kStCp_k q
  have l2 : ∀ k i, k ≠ o + 3 + 7 → L2 k i = L k i := fun k i q => by rw [← hL2]; exact kAcCpL_k q
  have al : ∀ s R, o + 18 ≤ s → AlE M L s R → AlE M2 L2 s R := fun s R q1 q => q.congr (fun k i h1 h2 => by rw [m2 _ _ (by omega), m1 _ _ (by omega)]) (l2 _ _ (by omega))
  refine ⟨?_, ?_, cp, al _ _ (by omega) c3, ⟨kMi nx' 0, k0, ?_, ?_, ?_, fun i hi => ?_⟩, ?_, ?_, fun q => al _ _ (by omega) (c7 q), fun q => al _ _ (by omega) (c8 q)⟩
  · unfold iTx; rw [m2 _ _ (by omega), m1 _ _ (by omega)]; exact c0
  · intro i hi; rw [m2 _ _ (by omega), m1 _ _ (by omega)]; exact c1 i hi
  · rw [m2 _ _ (by omega), ← hM1, xup_i (by decide), xup_s]
  · rw [m2 _ _ (by omega), ← hM1, xup_s]; rfl
  · show S.2.2.2.1 - 1 ≤ 14; omega
  · have hi' : i < S.2.2.2.1 - 1 := hi
    have e : kMi (kMi nx' 0) i = kMi nx' (i + 1) := by unfold kMi; (repeat' split) <;> omega
    rw [e]
    exact al _ _ (by omega) (n5 (i + 1) (by omega))
  · rw [m2 _ _ (by omega), m0 _ (by decide) (by decide)]; exact c5
  · rw [m2 _ _ (by omega), m0 _ (by decide) (by decide)]; exact c6
theorem WFS.pop (h : WFS S T B) (hc : 1 ≤ S.2.2.2.1) : WFS (sPop S) T B := ⟨h.2.1 0 (by omega), fun i hi => h.2.1 (i + 1) (by have : i < S.2.2.2.1 - 1 := hi; omega), h.2.2⟩
theorem WFS.keep (h : WFS S T B) {j : Nat} : WFS (sKeep S j) T B := by
  refine ⟨h.1, h.2.1, fun q => ?_, fun q => ?_⟩
  · show WFr (if 0 = j then S.2.2.1 else S.2.2.2.2.2.2 0) T B
    have q' : (if 0 = j then true else S.2.2.2.2.2.1 0) = true := q
    split
    · exact h.1
    next e => rw [if_neg e] at q'; exact h.2.2.1 q'
  · show WFr (if 1 = j then S.2.2.1 else S.2.2.2.2.2.2 1) T B
    have q' : (if 1 = j then true else S.2.2.2.2.2.1 1) = true := q
    split
    · exact h.1
    next e => rw [if_neg e] at q'; exact h.2.2.2 q'
theorem WFS.back (h : WFS S T B) {j : Nat} (hj : j < 2) (hf : S.2.2.2.2.2.1 j = true) : WFS (sBack S j) T B := by
  refine ⟨?_, fun i hi => absurd hi (Nat.not_lt_zero _), h.2.2⟩
  have : j = 0 ∨ j = 1 := by omega
  rcases this with rfl | rfl
  · exact h.2.2.1 hf
  · exact h.2.2.2 hf
end P38
section C38
variable {E : xEnv} {l : Launch} {x : Bool} {n : Nat} {K : xKnd} {G : xRef} {M : xMem} {L : xLng} {o T B : Nat} {S : xSp}
theorem c_X5_drop (hl9 : l.stackTraces = false) (h : rX n K G o) (hc : CRel M L o S) (hw : WFS S T B) (hT : T ≤ 10000000) (hB : B < 2 ^ 30) (t z : Int32) : Con E l Y_X5_drop [.ref o, .int t, .int z] (x, n, K, G, M, L)
    (xG (kdFall t z) (some (.int (nI (rDrF S.2.2.1 t z)))) (sNow (sPush S) (rDr S.2.2.1 t z)) o x n K G M L) (xC (kdFall t z) nsA (x, n, K, G, M, L)) := by
  have hr := h
  obtain ⟨h0, -, -, g1, h1, -⟩ := h
  have h10 := h1.1
  refine Con.mk 0 mp_X5_drop rfl (ls := [some (.ref o), some (.int t), some (.int z)]) rfl (Nat.le_of_ble_eq_true rfl) ?_
  refine V_ild1 dX5_drop_0 ?_
  refine V_ild2 dX5_drop_1 ?_
  refine V_cs2R lk_X5_217 cc_X5_isFall dX5_drop_2 (c_X5_isFall t z) ft_X5_drop_X5_isFall rfl rfl (Nat.le_of_ble_eq_true rfl) ?_
  refine V_if_ne (tgt := 18) dX5_drop_5 (by decide) (fun h5 => ?_) (fun h5 => ?_)
  · rw [bI0, Decidable.not_not] at h5
    refine V_ald0 dX5_drop_18 ?_
    refine V_cv0P lk_X5_222 cc_X5_remember dX5_drop_19 (by assumption) (c_X5_remember hr hc hw) ft_X5_drop_X5_remember (Nat.le_of_ble_eq_true rfl) (fun o9 q9 hq9 => ?_)
    obtain ⟨-, rfl, M1, L1, rfl, c1, f1⟩ := hq9
    obtain ⟨⟨d, hd, rfl⟩, k, hk1, hk2, rfl⟩ := xFallN h5
    obtain ⟨w, lf, v, lr, i1, i2, i3, i4⟩ := AlE.fall c1.2.2.1 hw.1 (d := d) (z := k) (by omega) ⟨hk1, hk2⟩ hT hB
    show V E l _ _ _ (0, 0) 22 _ []
    refine V_ald0 dX5_drop_22 ?_
    refine V_getR fd_X5_19 dX5_drop_23 (by assumption) (by assumption) rfl ?_
    refine V_ild1 dX5_drop_26 ?_
    refine V_ild2 dX5_drop_27 ?_
    refine V_cv2R lk_X5_225 cc_X3_letFall dX5_drop_28 (by assumption) (c_X3_letFall h1 i1 _ _ i2 rFt_lt) ft_X5_drop_X3_letFall rfl rfl (Nat.le_of_ble_eq_true rfl) ?_
    exact V_iret rfl dX5_drop_31 (by decide) (by decide) ⟨by unfold kdFall; rw [if_pos h5], rfl, _, _, rfl, c1.now (fun k i q1 q2 q3 => kFallM_k (by omega)) (fun k q1 => kEntL_k (by omega)) i3, f1.trans fun k hk => ⟨fun i => kFallM_k (by omega), fun i => kEntL_k (by omega)⟩⟩
  · rw [bI0] at h5
    exact V_throw th_X5_220 hl9 rfl dX5_drop_8 dX5_drop_11 dX5_drop_12 dX5_drop_14 dX5_drop_17 (by decide) (by decide) (by decide) (by decide) (xC_mk 0 (by unfold kdFall; rw [if_neg h5]) rfl)
theorem c_X5_pass (hl9 : l.stackTraces = false) (h : rX n K G o) (hc : CRel M L o S) (hw : WFS S T B) (hT : T ≤ 10000000) (t : Int32) : Con E l Y_X5_pass [.ref o, .int t] (x, n, K, G, M, L)
    (xG (kdO t 1 99) (some (.int (rLev (rGo S.2.2.1 t) (rGo S.2.2.1 t 0)))) (sNow (sPush S) (rGo S.2.2.1 t)) o x n K G M L) (xC (kdO t 1 99) nsA (x, n, K, G, M, L)) := by
  have hr := h
  obtain ⟨h0, -, -, g1, ⟨h10, gp, hp, -⟩, -⟩ := h
  have hp0 := hp.1
  refine Con.mk 0 mp_X5_pass rfl (ls := [some (.ref o), some (.int t)]) rfl (Nat.le_of_ble_eq_true rfl) ?_
  refine V_ild1 dX5_pass_0 ?_
  refine V_iconst (v := 1) dX5_pass_1 (by decide) ?_
  refine V_bipush (v := 99) dX5_pass_2 (by decide) ?_
  refine V_cs3R lk_X5_53 cc_X5_isOutside dX5_pass_4 (c_X5_isOutside _ _ _) ft_X5_pass_X5_isOutside rfl rfl (Nat.le_of_ble_eq_true rfl) ?_
  refine V_if_eq (tgt := 20) dX5_pass_7 (by decide) (fun h7 => ?_) (fun h7 => ?_)
  · rw [bI0] at h7
    refine V_ald0 dX5_pass_20 ?_
    refine V_cv0P lk_X5_222 cc_X5_remember dX5_pass_21 (by assumption) (c_X5_remember hr hc hw) ft_X5_pass_X5_remember (Nat.le_of_ble_eq_true rfl) (fun o9 q9 hq9 => ?_)
    obtain ⟨-, rfl, M1, L1, rfl, c1, f1⟩ := hq9
    have h7' := h7
    rw [not_or] at h7'
    obtain ⟨d, hd1, hd2, rfl⟩ := xIdx1 (N := 99) (by decide) h7'.1 h7'.2
    obtain ⟨i1, i2⟩ := AlE.pass c1.2.2.1 hw.1 (d := d) ⟨hd1, by omega⟩
    show V E l _ _ _ (0, 0) 24 _ []
    refine V_ald0 dX5_pass_24 ?_
    refine V_getR fd_X5_19 dX5_pass_25 (by assumption) (by assumption) rfl ?_
    refine V_getR fd_X5_109 dX5_pass_28 (by assumption) (by assumption) rfl ?_
    refine V_ild1 dX5_pass_31 ?_
    refine V_cv1U lk_X5_230 cc_X2_letPass dX5_pass_32 (by assumption) (c_X2_letPass hp _) ft_X5_pass_X2_letPass rfl rfl (Nat.le_of_ble_eq_true rfl) ?_
    refine V_ald0 dX5_pass_35 ?_
    refine V_getR fd_X5_19 dX5_pass_36 (by assumption) (by assumption) rfl ?_
    refine V_getR fd_X5_109 dX5_pass_39 (by assumption) (by assumption) rfl ?_
    refine V_ald0 dX5_pass_42 ?_
    refine V_getR fd_X5_19 dX5_pass_43 (by assumption) (by assumption) rfl ?_
    refine V_getR fd_X5_109 dX5_pass_46 (by assumption) (by assumption) rfl ?_
    refine V_getI fd_X5_113 dX5_pass_49 (by assumption) rfl ?_
    refine V_cv1R lk_X5_132 cc_X2_levelAt dX5_pass_52 (by assumption) (c_X2_levelAt hp _) ft_X5_pass_X2_levelAt rfl rfl (Nat.le_of_ble_eq_true rfl) ?_
    exact V_iret rfl dX5_pass_55 (by decide) (by decide) ⟨by unfold kdO; rw [if_neg h7], by rw [i1.lev0 i2 (by omega)]; rfl, _, _, rfl, c1.now (fun k i q1 q2 q3 => kPass_k (by omega)) (fun k q1 => rfl) i1, f1.trans fun k hk => ⟨fun i => kPass_k (by omega), fun i => rfl⟩⟩
  · rw [bI0, Decidable.not_not] at h7
    exact V_throw th_X5_228 hl9 rfl dX5_pass_10 dX5_pass_13 dX5_pass_14 dX5_pass_16 dX5_pass_19 (by decide) (by decide) (by decide) (by decide) (xC_mk 0 (by unfold kdO; rw [if_pos h7]) rfl)
theorem c_X5_set (hl9 : l.stackTraces = false) (h : rX n K G o) (hc : CRel M L o S) (hw : WFS S T B) (w v : Int32) : Con E l Y_X5_set [.ref o, .int w, .int v] (x, n, K, G, M, L)
    (xG (kdSet w v) (some (.int (S.2.2.1 (1 + w.toNatClampNeg)))) (sNow (sPush S) (upR S.2.2.1 (1 + w.toNatClampNeg) v)) o x n K G M L) (xC (kdSet w v) nsA (x, n, K, G, M, L)) := by
  have hr := h
  obtain ⟨h0, -, -, g1, ⟨h10, gp, hp, -⟩, -⟩ := h
  obtain ⟨hp0, gs, hss, -⟩ := hp
  refine Con.mk 1 mp_X5_set rfl (ls := [some (.ref o), some (.int w), some (.int v), none]) rfl (Nat.le_of_ble_eq_true rfl) ?_
  refine V_ild1 dX5_set_0 ?_
  refine V_ild2 dX5_set_1 ?_
  refine V_cs2R lk_X5_233 cc_X5_isSetting dX5_set_2 (c_X5_isSetting w v) ft_X5_set_X5_isSetting rfl rfl (Nat.le_of_ble_eq_true rfl) ?_
  refine V_if_ne (tgt := 18) dX5_set_5 (by decide) (fun h5 => ?_) (fun h5 => ?_)
  · rw [bI0, Decidable.not_not] at h5
    refine V_ald0 dX5_set_18 ?_
    refine V_cv0P lk_X5_222 cc_X5_remember dX5_set_19 (by assumption) (c_X5_remember hr hc hw) ft_X5_set_X5_remember (Nat.le_of_ble_eq_true rfl) (fun o9 q9 hq9 => ?_)
    obtain ⟨-, rfl, M1, L1, rfl, c1, f1⟩ := hq9
    have h5' := h5.1
    rw [not_or] at h5'
    obtain ⟨k, hk, rfl⟩ := xIdx (N := 4) (by decide) h5'.1 h5'.2
    have ek : (nI k).toNatClampNeg = k := nI_clamp (by omega)
    have hA := c1.2.2.1
    have e9 : M1 (o + 3 + 1 + 1) k = S.2.2.1 (1 + k) := by
      obtain ⟨w, lf, v, lr, q⟩ := hA
      exact q.1.2.2.2.2.2.2.2.1 k (by omega)
    show V E l _ _ _ (0, 0) 22 _ []
    refine V_ald0 dX5_set_22 ?_
    refine V_getR fd_X5_19 dX5_set_23 (by assumption) (by assumption) rfl ?_
    refine V_getR fd_X5_109 dX5_set_26 (by assumption) (by assumption) rfl ?_
    refine V_getR fd_X5_152 dX5_set_29 (by assumption) (by assumption) rfl ?_
    refine V_ild1 dX5_set_32 ?_
    refine V_iald (j := k) dX5_set_33 (by assumption) rfl (by omega) ?_
    refine V_ist3 dX5_set_34 rfl (by decide) ?_
    refine V_ald0 dX5_set_35 ?_
    refine V_getR fd_X5_19 dX5_set_36 (by assumption) (by assumption) rfl ?_
    refine V_getR fd_X5_109 dX5_set_39 (by assumption) (by assumption) rfl ?_
    refine V_getR fd_X5_152 dX5_set_42 (by assumption) (by assumption) rfl ?_
    refine V_ild1 dX5_set_45 ?_
    refine V_ild2 dX5_set_46 ?_
    refine V_iast (j := k) dX5_set_47 (by assumption) rfl (by omega) ?_
    refine V_ild3 dX5_set_48 ?_
    exact V_iret rfl dX5_set_49 (by decide) (by decide) ⟨by unfold kdSet; rw [if_pos h5], by rw [ek, e9], _, _, rfl, by rw [ek]; exact c1.now (fun k i q1 q2 q3 => xup_k (by omega)) (fun k q1 => rfl) (hA.set (by omega) v), f1.trans fun k hk => ⟨fun i => xup_k (by omega), fun i => rfl⟩⟩
  · rw [bI0] at h5
    exact V_throw th_X5_236 hl9 rfl dX5_set_8 dX5_set_11 dX5_set_12 dX5_set_14 dX5_set_17 (by decide) (by decide) (by decide) (by decide) (xC_mk 0 (by unfold kdSet; rw [if_neg h5]) rfl)
theorem c_X5_setBorder (hl9 : l.stackTraces = false) (h : rX n K G o) (hc : CRel M L o S) (hw : WFS S T B) (w v : Int32) : Con E l Y_X5_setBorder [.ref o, .int w, .int v] (x, n, K, G, M, L)
    (xG (kdBor S.2.2.1 w v) (some (.int (S.2.2.1 (15 + w.toNatClampNeg)))) (sNow (sPush S) (upR S.2.2.1 (15 + w.toNatClampNeg) v)) o x n K G M L) (xC (kdBor S.2.2.1 w v) nsIAS (x, n, K, G, M, L)) := by
  have hr := h
  obtain ⟨h0, -, -, g1, ⟨h10, gp, hp, -⟩, -⟩ := h
  have hpl := hp
  obtain ⟨hp0, gs, hss, gb, hb, -⟩ := hp
  have hA0 := hc.2.2.1
  refine Con.mk 1 mp_X5_setBorder rfl (ls := [some (.ref o), some (.int w), some (.int v), none]) rfl (Nat.le_of_ble_eq_true rfl) ?_
  refine V_ild1 dX5_setBorder_0 ?_
  refine V_iconst (v := 1) dX5_setBorder_1 (by decide) ?_
  refine V_bipush (v := 7) dX5_setBorder_2 (by decide) ?_
  refine V_cs3R lk_X5_53 cc_X5_isOutside dX5_setBorder_4 (c_X5_isOutside _ _ _) ft_X5_setBorder_X5_isOutside rfl rfl (Nat.le_of_ble_eq_true rfl) ?_
  refine V_if_eq (tgt := 20) dX5_setBorder_7 (by decide) (fun h7 => ?_) (fun h7 => ?_)
  · rw [bI0] at h7
    refine V_ild2 dX5_setBorder_20 ?_
    refine V_iconst (v := 1) dX5_setBorder_21 (by decide) ?_
    refine V_sipush (v := 5000) dX5_setBorder_22 (by decide) ?_
    refine V_cs3R lk_X5_53 cc_X5_isOutside dX5_setBorder_25 (c_X5_isOutside _ _ _) ft_X5_setBorder_X5_isOutside rfl rfl (Nat.le_of_ble_eq_true rfl) ?_
    refine V_if_eq (tgt := 41) dX5_setBorder_28 (by decide) (fun h28 => ?_) (fun h28 => ?_)
    · rw [bI0] at h28
      have h7' := h7
      rw [not_or] at h7'
      obtain ⟨k, hk1, hk, rfl⟩ := xIdx1 (N := 7) (by decide) h7'.1 h7'.2
      have ek : (nI k).toNatClampNeg = k := nI_clamp (by omega)
      have asc : (M (o + 3 + 1 + 2) (k - 1) < v ∧ (k = 7 ∨ v < M (o + 3 + 1 + 2) (k + 1))) ↔ ((k = 1 ∨ S.2.2.1 (14 + k) < v) ∧ (k = 7 ∨ v < S.2.2.1 (16 + k))) := by
        obtain ⟨w9, lf9, v9, lr9, q⟩ := hA0
        have b0 := q.1.2.2.2.2.2.2.2.2.1
        have bo := q.1.2.2.2.2.2.2.2.2.2.1
        have bk : (k = 7 ∨ v < M (o + 3 + 1 + 2) (k + 1)) ↔ (k = 7 ∨ v < S.2.2.1 (16 + k)) := by
          by_cases z : k = 7
          · exact ⟨fun _ => Or.inl z, fun _ => Or.inl z⟩
          · rw [bo k (by omega)]
        refine and_congr ?_ bk
        by_cases z : k = 1
        · subst z
          rw [show 1 - 1 = 0 from rfl, b0]
          exact ⟨fun _ => Or.inl rfl, fun _ => Int32.lt_of_lt_of_le (by decide) (Int32.not_lt.mp fun q => h28 (Or.inl q))⟩
        · obtain ⟨j, rfl⟩ : ∃ j, k = j + 2 := ⟨k - 2, by omega⟩
          rw [show j + 2 - 1 = j + 1 by omega, bo j (by omega), show 14 + (j + 2) = 16 + j by omega]
          exact ⟨Or.inr, fun q => q.resolve_left z⟩
      refine V_ald0 dX5_setBorder_41 ?_
      refine V_getR fd_X5_19 dX5_setBorder_42 (by assumption) (by assumption) rfl ?_
      refine V_getR fd_X5_109 dX5_setBorder_45 (by assumption) (by assumption) rfl ?_
      refine V_ild1 dX5_setBorder_48 ?_
      refine V_ild2 dX5_setBorder_49 ?_
      refine V_cv2R lk_X5_242 cc_X2_wouldAscend dX5_setBorder_50 (by assumption) (c_X2_wouldAscend hpl (k := k) (by omega) v) ft_X5_setBorder_X2_wouldAscend rfl rfl (Nat.le_of_ble_eq_true rfl) ?_
      refine V_if_ne (tgt := 66) dX5_setBorder_53 (by decide) (fun h53 => ?_) (fun h53 => ?_)
      · rw [bI0, Decidable.not_not, asc] at h53
        refine V_ald0 dX5_setBorder_66 ?_
        refine V_cv0P lk_X5_222 cc_X5_remember dX5_setBorder_67 (by assumption) (c_X5_remember hr hc hw) ft_X5_setBorder_X5_remember (Nat.le_of_ble_eq_true rfl) (fun o9 q9 hq9 => ?_)
        obtain ⟨-, rfl, M1, L1, rfl, c1, f1⟩ := hq9
        obtain ⟨j, rfl⟩ : ∃ j, k = j + 1 := ⟨k - 1, by omega⟩
        have hA := c1.2.2.1
        have e9 : M1 (o + 3 + 1 + 2) (j + 1) = S.2.2.1 (16 + j) := by
          obtain ⟨w, lf, v, lr, q⟩ := hA
          exact q.1.2.2.2.2.2.2.2.2.2.1 j (by omega)
        have ej : 15 + (j + 1) = 16 + j := by omega
        show V E l _ _ _ (0, 0) 70 _ []
        refine V_ald0 dX5_setBorder_70 ?_
        refine V_getR fd_X5_19 dX5_setBorder_71 (by assumption) (by assumption) rfl ?_
        refine V_getR fd_X5_109 dX5_setBorder_74 (by assumption) (by assumption) rfl ?_
        refine V_getR fd_X5_247 dX5_setBorder_77 (by assumption) (by assumption) rfl ?_
        refine V_ild1 dX5_setBorder_80 ?_
        refine V_iald (j := j + 1) dX5_setBorder_81 (by assumption) rfl (by omega) ?_
        refine V_ist3 dX5_setBorder_82 rfl (by decide) ?_
        refine V_ald0 dX5_setBorder_83 ?_
        refine V_getR fd_X5_19 dX5_setBorder_84 (by assumption) (by assumption) rfl ?_
        refine V_getR fd_X5_109 dX5_setBorder_87 (by assumption) (by assumption) rfl ?_
        refine V_getR fd_X5_247 dX5_setBorder_90 (by assumption) (by assumption) rfl ?_
        refine V_ild1 dX5_setBorder_93 ?_
        refine V_ild2 dX5_setBorder_94 ?_
        refine V_iast (j := j + 1) dX5_setBorder_95 (by assumption) rfl (by omega) ?_
        refine V_ild3 dX5_setBorder_96 ?_
        exact V_iret rfl dX5_setBorder_97 (by decide) (by decide) ⟨by unfold kdBor; rw [if_neg h7, if_neg h28, ek, if_pos h53], by rw [ek, e9, ej], _, _, rfl, by rw [ek, ej]; exact c1.now (fun k i q1 q2 q3 => xup_k (by omega)) (fun k q1 => rfl) (hA.bor (by omega) v), f1.trans fun k hk => ⟨fun i => xup_k (by omega), fun i => rfl⟩⟩
      · rw [bI0, asc] at h53
        exact V_throw th_X5_245 hl9 rfl dX5_setBorder_56 dX5_setBorder_59 dX5_setBorder_60 dX5_setBorder_62 dX5_setBorder_65 (by decide) (by decide) (by decide) (by decide) (xC_mk 2 (by unfold kdBor; rw [if_neg h7, if_neg h28, ek, if_neg h53]) rfl)
    · rw [bI0, Decidable.not_not] at h28
      exact V_throw th_X5_240 hl9 rfl dX5_setBorder_31 dX5_setBorder_34 dX5_setBorder_35 dX5_setBorder_37 dX5_setBorder_40 (by decide) (by decide) (by decide) (by decide) (xC_mk 1 (by unfold kdBor; rw [if_neg h7, if_pos h28]) rfl)
  · rw [bI0, Decidable.not_not] at h7
    exact V_throw th_X5_238 hl9 rfl dX5_setBorder_10 dX5_setBorder_13 dX5_setBorder_14 dX5_setBorder_16 dX5_setBorder_19 (by decide) (by decide) (by decide) (by decide) (xC_mk 0 (by unfold kdBor; rw [if_pos h7]) rfl)
theorem c_X5_empty (h : rX n K G o) (hc : CRel M L o S) (hw : WFS S T B) : Con E l Y_X5_empty [.ref o] (x, n, K, G, M, L) (xG 0 (some (.int (rInB S.2.2.1 0))) (sNow (sPush S) (rEmp S.2.2.1)) o x n K G M L) xF := by
  have hr := h
  obtain ⟨h0, -, -, g1, ⟨h10, gp, hp, -⟩, -⟩ := h
  have hpl := hp
  obtain ⟨hp0, -, -, -, -, g3, h3, -⟩ := hp
  refine Con.mk 1 mp_X5_empty rfl (ls := [some (.ref o), none]) rfl (Nat.le_of_ble_eq_true rfl) ?_
  refine V_ald0 dX5_empty_0 ?_
  refine V_cv0P lk_X5_222 cc_X5_remember dX5_empty_1 (by assumption) (c_X5_remember hr hc hw) ft_X5_empty_X5_remember (Nat.le_of_ble_eq_true rfl) (fun o9 q9 hq9 => ?_)
  obtain ⟨-, rfl, M1, L1, rfl, c1, f1⟩ := hq9
  have hA := c1.2.2.1
  have e9 : kSum (M1 (o + 3 + 1 + 3)) 8 = rInB S.2.2.1 0 := by
    obtain ⟨w, lf, v, lr, q⟩ := hA
    exact q.1.inB.1
  show V E l _ _ _ (0, 0) 4 _ []
  refine V_ald0 dX5_empty_4 ?_
  refine V_getR fd_X5_19 dX5_empty_5 (by assumption) (by assumption) rfl ?_
  refine V_getR fd_X5_109 dX5_empty_8 (by assumption) (by assumption) rfl ?_
  refine V_getR fd_X5_121 dX5_empty_11 (by assumption) (by assumption) rfl ?_
  refine V_cs1R lk_X5_125 cc_X5_sumOf dX5_empty_14 (c_X5_sumOf h3) ft_X5_empty_X5_sumOf rfl rfl (Nat.le_of_ble_eq_true rfl) ?_
  refine V_ist1 dX5_empty_17 rfl (by decide) ?_
  refine V_ald0 dX5_empty_18 ?_
  refine V_getR fd_X5_19 dX5_empty_19 (by assumption) (by assumption) rfl ?_
  refine V_getR fd_X5_109 dX5_empty_22 (by assumption) (by assumption) rfl ?_
  refine V_cv0U lk_X5_250 cc_X2_emptyBins dX5_empty_25 (by assumption) (c_X2_emptyBins hpl) ft_X5_empty_X2_emptyBins rfl rfl (Nat.le_of_ble_eq_true rfl) ?_
  refine V_ild1 dX5_empty_28 ?_
  exact V_iret rfl dX5_empty_29 (by decide) (by decide) ⟨rfl, by rw [e9], _, _, rfl, c1.now (fun k i q1 q2 q3 => kEmp_k (by omega)) (fun k q1 => rfl) hA.emp, f1.trans fun k hk => ⟨fun i => kEmp_k (by omega), fun i => rfl⟩⟩
theorem c_X5_undo (hl9 : l.stackTraces = false) (h : rX n K G o) (hc : CRel M L o S) (hw : WFS S T B) : Con E l Y_X5_undo [.ref o] (x, n, K, G, M, L)
    (xG (if S.2.2.2.1 = 0 then 1 else 0) (some (.int (nI (S.2.2.2.1 - 1)))) (sPop S) o x n K G M L) (xC (if S.2.2.2.1 = 0 then 1 else 0) nsS (x, n, K, G, M, L)) := by
  have hr := h
  obtain ⟨h0, -, -, g1, h1, -, -, -, -, g4, h4, hm, -⟩ := h
  have hc0 := hc
  obtain ⟨-, -, -, -, ⟨nx, n1, n2, n3, n4, n5⟩, -⟩ := hc
  have h10 := h1.1
  have fin : ∀ y, y = nI (kMi nx 0) → 1 ≤ S.2.2.2.1 → V E l Y_X5_undo (xQm E Y_X5_undo (xG (if S.2.2.2.1 = 0 then 1 else 0) (some (.int (nI (S.2.2.2.1 - 1)))) (sPop S) o x n K G M L) (xC (if S.2.2.2.1 = 0 then 1 else 0) nsS (x, n, K, G, M, L))) (x, n, K, G, M, L) (0, 0) 37 [some (.ref o)] [.int y, .ref o] := by
    intro y hy h1c
    subst hy
    have k0 := kMi_lt n1 (i := 0) (by decide)
    obtain ⟨g5, h5⟩ := hm _ k0
    have e6 : xup M o 5 (nI (kMi nx 0)) o 6 - 1 = nI (S.2.2.2.1 - 1) := by rw [xup_i (by decide), n3]; exact pkSub (b := 1) h1c
    have ip : iPl (xup (xup M o 5 (nI (kMi nx 0))) o 6 (nI (S.2.2.2.1 - 1))) (o + 79 + 15 * kMi nx 0 + 1) := by
      obtain ⟨w, lf, v, lr, q⟩ := n5 0 (by omega)
      have := q.ipl (hw.2.1 0 (by omega))
      unfold iPl at this ⊢
      rw [xup_k (by omega), xup_k (by omega), xup_k (by omega), xup_k (by omega), xup_k (by omega), xup_k (by omega)]
      exact this
    have e7 : kStCp (xup (xup M o 5 (nI (kMi nx 0))) o 6 (nI (S.2.2.2.1 - 1))) (o + 79 + 15 * kMi nx 0) (o + 3) o 6 = nI (S.2.2.2.1 - 1) := by rw [kStCp_k (by omega), xup_s]
    refine V_putI fw_X5_33 dX5_undo_37 (by assumption) rfl ?_
    refine V_ald0 dX5_undo_40 ?_
    refine V_dup dX5_undo_41 rfl ?_
    refine V_getI fd_X5_37 dX5_undo_42 (by assumption) rfl ?_
    refine V_iconst (v := 1) dX5_undo_45 (by decide) ?_
    refine V_isub dX5_undo_46 ?_
    rw [e6]
    refine V_putI fw_X5_37 dX5_undo_47 (by assumption) rfl ?_
    refine V_ald0 dX5_undo_50 ?_
    refine V_getR fd_X5_19 dX5_undo_51 (by assumption) (by assumption) rfl ?_
    refine V_ald0 dX5_undo_54 ?_
    refine V_getR fd_X5_29 dX5_undo_55 (by assumption) (by assumption) rfl ?_
    refine V_ald0 dX5_undo_58 ?_
    refine V_getI fd_X5_33 dX5_undo_59 (by assumption) rfl ?_
    refine V_aald (j := kMi nx 0) dX5_undo_62 (by assumption) (by rw [xup_i (by decide), xup_s]) k0 (by assumption) ?_
    refine V_cv1U lk_X5_86 cc_X3_copyFrom dX5_undo_63 (by assumption) (c_X3_copyFrom h5 h1 (by omega) ip) ft_X5_undo_X3_copyFrom rfl rfl (Nat.le_of_ble_eq_true rfl) ?_
    refine V_ald0 dX5_undo_66 ?_
    refine V_getI fd_X5_37 dX5_undo_67 (by assumption) rfl ?_
    exact V_iret rfl dX5_undo_70 (by decide) (by decide) ⟨if_neg (by omega), by rw [e7], _, _, rfl, hc0.pop n1 n2 h1c, fun k hk => ⟨fun i => by rw [kStCp_k (by omega), xup_k (by omega), xup_k (by omega)], fun i => kAcCpL_k (by omega)⟩⟩
  refine Con.mk 0 mp_X5_undo rfl (ls := [some (.ref o)]) rfl (Nat.le_of_ble_eq_true rfl) ?_
  refine V_ald0 dX5_undo_0 ?_
  refine V_getI fd_X5_37 dX5_undo_1 (by assumption) rfl ?_
  refine V_iconst (v := 1) dX5_undo_4 (by decide) ?_
  refine V_icmp_ge (tgt := 18) dX5_undo_5 (by decide) (fun h5 => ?_) (fun h5 => ?_)
  · rw [n3] at h5
    have h1c : 1 ≤ S.2.2.2.1 := Nat.pos_of_ne_zero fun q => h5 (by rw [q]; decide)
    refine V_ald0 dX5_undo_18 ?_
    refine V_ald0 dX5_undo_19 ?_
    refine V_getI fd_X5_33 dX5_undo_20 (by assumption) rfl ?_
    refine V_if_le (tgt := 35) dX5_undo_23 (by decide) (fun h23 => ?_) (fun h23 => ?_)
    · rw [n2] at h23
      refine V_bipush (v := 13) dX5_undo_35 (by decide) ?_
      first
      | exact fin _ (by unfold kMi; rw [if_pos ((nI_ltI (a := 0) (by decide) (by omega)).mp h23), n2]; exact pkSub (b := 1) ((nI_ltI (a := 0) (by decide) (by omega)).mp h23)) h1c
      | exact fin _ (by unfold kMi; rw [if_neg (fun q => h23 (nI_lt (a := 0) q (by omega)))]; have : nx = 0 := Nat.eq_zero_of_not_pos (fun q => h23 (nI_lt (a := 0) q (by omega))); subst this; rfl) h1c
    · rw [n2] at h23
      refine V_ald0 dX5_undo_26 ?_
      refine V_getI fd_X5_33 dX5_undo_27 (by assumption) rfl ?_
      refine V_iconst (v := 1) dX5_undo_30 (by decide) ?_
      refine V_isub dX5_undo_31 ?_
      refine V_goto (tgt := 37) dX5_undo_32 (by decide) ?_
      first
      | exact fin _ (by unfold kMi; rw [if_pos ((nI_ltI (a := 0) (by decide) (by omega)).mp h23), n2]; exact pkSub (b := 1) ((nI_ltI (a := 0) (by decide) (by omega)).mp h23)) h1c
      | exact fin _ (by unfold kMi; rw [if_neg (fun q => h23 (nI_lt (a := 0) q (by omega)))]; have : nx = 0 := Nat.eq_zero_of_not_pos (fun q => h23 (nI_lt (a := 0) q (by omega))); subst this; rfl) h1c
  · exact V_throw th_X5_253 hl9 rfl dX5_undo_8 dX5_undo_11 dX5_undo_12 dX5_undo_14 dX5_undo_17 (by decide) (by decide) (by decide) (by decide) (xC_mk 0 (if_pos (by rw [n3] at h5; have := (nI_ltI (a := S.2.2.2.1) (b := 1) (by omega) (by decide)).mp h5; omega)) rfl)
theorem c_X5_wouldBe (hl9 : l.stackTraces = false) (h : rX n K G o) (hc : CRel M L o S) (hw : WFS S T B) (hT : T ≤ 10000000) (t z : Int32) : Con E l Y_X5_wouldBe [.ref o, .int t, .int z] (x, n, K, G, M, L) (xW (kdFall t z) (.int (nI (rDrF S.2.2.1 t z))) (x, n, K, G, M, L)) (xC (kdFall t z) nsA (x, n, K, G, M, L)) := by
  obtain ⟨h0, -, -, g1, ⟨h10, gp, hp, -⟩, -⟩ := h
  have hp0 := hp.1
  refine Con.mk 0 mp_X5_wouldBe rfl (ls := [some (.ref o), some (.int t), some (.int z)]) rfl (Nat.le_of_ble_eq_true rfl) ?_
  refine V_ild1 dX5_wouldBe_0 ?_
  refine V_ild2 dX5_wouldBe_1 ?_
  refine V_cs2R lk_X5_217 cc_X5_isFall dX5_wouldBe_2 (c_X5_isFall t z) ft_X5_wouldBe_X5_isFall rfl rfl (Nat.le_of_ble_eq_true rfl) ?_
  refine V_if_ne (tgt := 18) dX5_wouldBe_5 (by decide) (fun h5 => ?_) (fun h5 => ?_)
  · rw [bI0, Decidable.not_not] at h5
    refine V_ald0 dX5_wouldBe_18 ?_
    refine V_getR fd_X5_19 dX5_wouldBe_19 (by assumption) (by assumption) rfl ?_
    refine V_getR fd_X5_109 dX5_wouldBe_22 (by assumption) (by assumption) rfl ?_
    refine V_ald0 dX5_wouldBe_25 ?_
    refine V_getR fd_X5_19 dX5_wouldBe_26 (by assumption) (by assumption) rfl ?_
    refine V_getR fd_X5_109 dX5_wouldBe_29 (by assumption) (by assumption) rfl ?_
    refine V_getI fd_X5_113 dX5_wouldBe_32 (by assumption) rfl ?_
    refine V_ild1 dX5_wouldBe_35 ?_
    refine V_iadd dX5_wouldBe_36 ?_
    refine V_ald0 dX5_wouldBe_37 ?_
    refine V_getR fd_X5_19 dX5_wouldBe_38 (by assumption) (by assumption) rfl ?_
    refine V_getR fd_X5_109 dX5_wouldBe_41 (by assumption) (by assumption) rfl ?_
    refine V_ild2 dX5_wouldBe_44 ?_
    refine V_cv1R lk_X5_255 cc_X2_strengthOf dX5_wouldBe_45 (by assumption) (c_X2_strengthOf hp _) ft_X5_wouldBe_X2_strengthOf rfl rfl (Nat.le_of_ble_eq_true rfl) ?_
    refine V_cv2R lk_X5_258 cc_X2_fateOf dX5_wouldBe_48 (by assumption) (c_X2_fateOf hp _ _) ft_X5_wouldBe_X2_fateOf rfl rfl (Nat.le_of_ble_eq_true rfl) ?_
    exact V_iret rfl dX5_wouldBe_51 (by decide) (by decide) ⟨by unfold kdFall; rw [if_pos h5], by obtain ⟨⟨d, hd, rfl⟩, -⟩ := xFallN h5; rw [hc.2.2.1.wb hw.1 (by omega) hT], rfl⟩
  · rw [bI0] at h5
    exact V_throw th_X5_220 hl9 rfl dX5_wouldBe_8 dX5_wouldBe_11 dX5_wouldBe_12 dX5_wouldBe_14 dX5_wouldBe_17 (by decide) (by decide) (by decide) (by decide) (xC_mk 0 (by unfold kdFall; rw [if_neg h5]) rfl)
theorem c_X5_leastSize (hl9 : l.stackTraces = false) (h : rX n K G o) (hc : CRel M L o S) (hw : WFS S T B) (hT : T ≤ 10000000) (t : Int32) : Con E l Y_X5_leastSize [.ref o, .int t] (x, n, K, G, M, L) (xW (kdO t 0 99) (.int (aLst (fun i => decide (rDrF S.2.2.1 t (nI i) = 0)) 60 1)) (x, n, K, G, M, L)) (xC (kdO t 0 99) nsA (x, n, K, G, M, L)) := by
  obtain ⟨h0, -, -, g1, ⟨h10, gp, hp, -⟩, -⟩ := h
  have hp0 := hp.1
  refine Con.mk 2 mp_X5_leastSize rfl (ls := [some (.ref o), some (.int t), none, none]) rfl (Nat.le_of_ble_eq_true rfl) ?_
  have loop : ∀ (d i : Nat), d + i = 61 → 1 ≤ i → ¬ (t < 0 ∨ 99 < t) → aLst (fun i => decide (rDrF S.2.2.1 t (nI i) = 0)) 60 1 = aLst (fun i => decide (rDrF S.2.2.1 t (nI i) = 0)) d i →
      V E l Y_X5_leastSize (xQm E Y_X5_leastSize (xW (kdO t 0 99) (.int (aLst (fun i => decide (rDrF S.2.2.1 t (nI i) = 0)) 60 1)) (x, n, K, G, M, L)) (xC (kdO t 0 99) nsA (x, n, K, G, M, L))) (x, n, K, G, M, L) (0, 0) 31 [some (.ref o), some (.int t), some (.ref (o + 3 + 1)), some (.int (nI i))] [] := by
    intro d
    induction d with
    | zero =>
      intro i hi i1 ht he
      refine V_ild3 dX5_leastSize_31 ?_
      refine V_bipush (v := 60) dX5_leastSize_32 (by decide) ?_
      refine V_icmp_gt (tgt := 63) dX5_leastSize_34 (by decide) (fun h34 => ?_) (fun h34 => ?_)
      · refine V_bipush (v := (-9)) dX5_leastSize_63 (by decide) ?_
        exact V_iret rfl dX5_leastSize_65 (by decide) (by decide) ⟨by unfold kdO; rw [if_neg ht], by rw [he]; rfl, rfl⟩
      · exact absurd (nI_lt (a := 60) (by omega) (by omega)) h34
    | succ d ih =>
      intro i hi i1 ht he
      have e9 : kFate M (o + 3 + 1) (M (o + 3 + 1) 0 + t) (kStr M (o + 3 + 1) (nI i)) = nI (rDrF S.2.2.1 t (nI i)) := by
        have ht' := ht
        rw [not_or] at ht'
        obtain ⟨k, hk, rfl⟩ := xIdx (N := 99) (by decide) ht'.1 ht'.2
        exact hc.2.2.1.wb hw.1 (by omega) hT _
      have f4 : rDrF S.2.2.1 t (nI i) < 4 := rFt_lt
      have z9 : nI (rDrF S.2.2.1 t (nI i)) = 0 ↔ rDrF S.2.2.1 t (nI i) = 0 := nI_eq (b := 0) (by omega) (by decide)
      refine V_ild3 dX5_leastSize_31 ?_
      refine V_bipush (v := 60) dX5_leastSize_32 (by decide) ?_
      refine V_icmp_gt (tgt := 63) dX5_leastSize_34 (by decide) (fun h34 => ?_) (fun h34 => ?_)
      · exact absurd h34 (nI_nlt (a := 60) (by omega) (by omega))
      · refine V_ald2 dX5_leastSize_37 ?_
        refine V_ald2 dX5_leastSize_38 ?_
        refine V_getI fd_X5_113 dX5_leastSize_39 (by assumption) rfl ?_
        refine V_ild1 dX5_leastSize_42 ?_
        refine V_iadd dX5_leastSize_43 ?_
        refine V_ald2 dX5_leastSize_44 ?_
        refine V_ild3 dX5_leastSize_45 ?_
        refine V_cv1R lk_X5_255 cc_X2_strengthOf dX5_leastSize_46 (by assumption) (c_X2_strengthOf hp _) ft_X5_leastSize_X2_strengthOf rfl rfl (Nat.le_of_ble_eq_true rfl) ?_
        refine V_cv2R lk_X5_258 cc_X2_fateOf dX5_leastSize_49 (by assumption) (c_X2_fateOf hp _ _) ft_X5_leastSize_X2_fateOf rfl rfl (Nat.le_of_ble_eq_true rfl) ?_
        rw [e9]
        refine V_if_ne (tgt := 57) dX5_leastSize_52 (by decide) (fun h52 => ?_) (fun h52 => ?_)
        · refine V_inc3 dX5_leastSize_57 rfl (nI_1 i) ?_
          refine V_goto (tgt := 31) dX5_leastSize_60 (by decide) ?_
          exact ih (i + 1) (by omega) (by omega) ht (by rw [he, aLst_no]; intro q; exact h52 (z9.mpr (of_decide_eq_true q)))
        · refine V_ild3 dX5_leastSize_55 ?_
          exact V_iret rfl dX5_leastSize_56 (by decide) (by decide) ⟨by unfold kdO; rw [if_neg ht], by rw [he]; unfold aLst; rw [if_pos (decide_eq_true (z9.mp h52))], rfl⟩
  refine V_ild1 dX5_leastSize_0 ?_
  refine V_iconst (v := 0) dX5_leastSize_1 (by decide) ?_
  refine V_bipush (v := 99) dX5_leastSize_2 (by decide) ?_
  refine V_cs3R lk_X5_53 cc_X5_isOutside dX5_leastSize_4 (c_X5_isOutside _ _ _) ft_X5_leastSize_X5_isOutside rfl rfl (Nat.le_of_ble_eq_true rfl) ?_
  refine V_if_eq (tgt := 21) dX5_leastSize_7 (by decide) (fun h7 => ?_) (fun h7 => ?_)
  · rw [bI0] at h7
    refine V_ald0 dX5_leastSize_21 ?_
    refine V_getR fd_X5_19 dX5_leastSize_22 (by assumption) (by assumption) rfl ?_
    refine V_getR fd_X5_109 dX5_leastSize_25 (by assumption) (by assumption) rfl ?_
    refine V_ast2 dX5_leastSize_28 rfl (by decide) ?_
    refine V_iconst (v := 1) dX5_leastSize_29 (by decide) ?_
    refine V_ist3 dX5_leastSize_30 rfl (by decide) ?_
    exact loop 60 1 (by omega) (by omega) h7 rfl
  · rw [bI0, Decidable.not_not] at h7
    exact V_throwW th_X5_261 hl9 rfl dX5_leastSize_10 dX5_leastSize_13 dX5_leastSize_14 dX5_leastSize_17 dX5_leastSize_20 (by decide) (by decide) (by decide) (by decide) (xC_mk 0 (by unfold kdO; rw [if_pos h7]) rfl)
theorem aQui_no {g : Nat → Bool} {d i : Nat} (h : ¬ g i = true) : aQui g (d + 1) i = aQui g d (i + 1) := by rw [aQui, if_neg h]
theorem aQui_yes {g : Nat → Bool} {d i : Nat} (h : g i = true) : aQui g (d + 1) i = i := by rw [aQui, if_pos h]
theorem c_X5_quietIn (hl9 : l.stackTraces = false) (h : rX n K G o) (hc : CRel M L o S) (hw : WFS S T B) (hT : T ≤ 2 ^ 29) (v : Int32) : Con E l Y_X5_quietIn [.ref o, .int v] (x, n, K, G, M, L) (xW (kdO v 0 5000) (.int (nI (aQui (fun i => decide (¬ v < rLev S.2.2.1 (S.2.2.1 0 + nI i))) 117 0))) (x, n, K, G, M, L)) (xC (kdO v 0 5000) nsA (x, n, K, G, M, L)) := by
  obtain ⟨h0, -, -, g1, ⟨h10, gp, hp, -⟩, -⟩ := h
  have hp0 := hp.1
  obtain ⟨-, -, ⟨w9, lf, v9, lr, hA⟩, -⟩ := hc
  generalize hg : (fun i => decide (¬ v < rLev S.2.2.1 (S.2.2.1 0 + nI i))) = g
  have gg : ∀ i, g i = decide (¬ v < rLev S.2.2.1 (S.2.2.1 0 + nI i)) := fun i => by rw [← hg]
  refine Con.mk 2 mp_X5_quietIn rfl (ls := [some (.ref o), some (.int v), none, none]) rfl (Nat.le_of_ble_eq_true rfl) ?_
  have loop : ∀ (d i : Nat), d + i = 117 → ¬ (v < 0 ∨ 5000 < v) → aQui g 117 0 = aQui g d i →
      V E l Y_X5_quietIn (xQm E Y_X5_quietIn (xW (kdO v 0 5000) (.int (nI (aQui g 117 0))) (x, n, K, G, M, L)) (xC (kdO v 0 5000) nsA (x, n, K, G, M, L))) (x, n, K, G, M, L) (0, 0) 32 [some (.ref o), some (.int v), some (.ref (o + 3 + 1)), some (.int (nI i))] [] := by
    intro d
    induction d with
    | zero =>
      intro i hi ht he
      have e : i = 117 := by omega
      subst e
      refine V_ild3 dX5_quietIn_32 ?_
      refine V_bipush (v := 117) dX5_quietIn_33 (by decide) ?_
      refine V_icmp_ge (tgt := 60) dX5_quietIn_35 (by decide) (fun h35 => ?_) (fun h35 => ?_)
      · refine V_bipush (v := 117) dX5_quietIn_60 (by decide) ?_
        exact V_iret rfl dX5_quietIn_62 (by decide) (by decide) ⟨by unfold kdO; rw [if_neg ht], by rw [he]; rfl, rfl⟩
      · exact absurd h35 (by decide)
    | succ d ih =>
      intro i hi ht he
      have e9 := hA.levw hw.1 hT (d := i) (by omega)
      refine V_ild3 dX5_quietIn_32 ?_
      refine V_bipush (v := 117) dX5_quietIn_33 (by decide) ?_
      refine V_icmp_ge (tgt := 60) dX5_quietIn_35 (by decide) (fun h35 => ?_) (fun h35 => ?_)
      · exact absurd (nI_lt (b := 117) (by omega) (by omega)) h35
      · refine V_ald2 dX5_quietIn_38 ?_
        refine V_ald2 dX5_quietIn_39 ?_
        refine V_getI fd_X5_113 dX5_quietIn_40 (by assumption) rfl ?_
        refine V_ild3 dX5_quietIn_43 ?_
        refine V_iadd dX5_quietIn_44 ?_
        refine V_cv1R lk_X5_132 cc_X2_levelAt dX5_quietIn_45 (by assumption) (c_X2_levelAt hp _) ft_X5_quietIn_X2_levelAt rfl rfl (Nat.le_of_ble_eq_true rfl) ?_
        rw [e9]
        refine V_ild1 dX5_quietIn_48 ?_
        refine V_icmp_gt (tgt := 54) dX5_quietIn_49 (by decide) (fun h49 => ?_) (fun h49 => ?_)
        · refine V_inc3 dX5_quietIn_54 rfl (nI_1 i) ?_
          refine V_goto (tgt := 32) dX5_quietIn_57 (by decide) ?_
          exact ih (i + 1) (by omega) ht (by rw [he, aQui_no]; rw [gg]; intro q; exact of_decide_eq_true q h49)
        · refine V_ild3 dX5_quietIn_52 ?_
          exact V_iret rfl dX5_quietIn_53 (by decide) (by decide) ⟨by unfold kdO; rw [if_neg ht], by rw [he, aQui_yes (by rw [gg]; exact decide_eq_true h49)], rfl⟩
  refine V_ild1 dX5_quietIn_0 ?_
  refine V_iconst (v := 0) dX5_quietIn_1 (by decide) ?_
  refine V_sipush (v := 5000) dX5_quietIn_2 (by decide) ?_
  refine V_cs3R lk_X5_53 cc_X5_isOutside dX5_quietIn_5 (c_X5_isOutside _ _ _) ft_X5_quietIn_X5_isOutside rfl rfl (Nat.le_of_ble_eq_true rfl) ?_
  refine V_if_eq (tgt := 22) dX5_quietIn_8 (by decide) (fun h8 => ?_) (fun h8 => ?_)
  · rw [bI0] at h8
    refine V_ald0 dX5_quietIn_22 ?_
    refine V_getR fd_X5_19 dX5_quietIn_23 (by assumption) (by assumption) rfl ?_
    refine V_getR fd_X5_109 dX5_quietIn_26 (by assumption) (by assumption) rfl ?_
    refine V_ast2 dX5_quietIn_29 rfl (by decide) ?_
    refine V_iconst (v := 0) dX5_quietIn_30 (by decide) ?_
    refine V_ist3 dX5_quietIn_31 rfl (by decide) ?_
    exact loop 117 0 (by omega) h8 rfl
  · rw [bI0, Decidable.not_not] at h8
    exact V_throwW th_X5_263 hl9 rfl dX5_quietIn_11 dX5_quietIn_14 dX5_quietIn_15 dX5_quietIn_18 dX5_quietIn_21 (by decide) (by decide) (by decide) (by decide) (xC_mk 0 (by unfold kdO; rw [if_pos h8]) rfl)
end C38

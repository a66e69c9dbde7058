/-! ===== the law: what a drop would become, how long it rings, what is taken back: facts of rows ===== -/
def sMc (S : xSp) (k : Nat) : xSp := (S.1, S.2.1, S.2.2.1, k, S.2.2.2.2)
section P87
variable {R : xRow} {T B r k : Nat} {c : Nat → Nat} {S : xSp}
theorem pop_push {R' : xRow} : sPop (sNow (sPush (sMc S k)) R') = sMc S (min (k + 1) 14 - 1) := by
  unfold sPop sNow sPush sMc
  dsimp only
  simp only [if_true, Nat.add_one_ne_zero, if_false, Nat.add_sub_cancel]
theorem undo_push {R' : xRow} (hk : k ≤ 14) : lUndo (sNow (sPush (sMc S k)) R') = lN (min (k + 1) 14 - 1) ∧ sUndo (sNow (sPush (sMc S k)) R') = sMc S (min (k + 1) 14 - 1) := by
  have e : kdUndo (sNow (sPush (sMc S k)) R') = 0 := by
    unfold kdUndo
    exact if_neg (show ¬ min (k + 1) 14 = 0 by omega)
  constructor
  · unfold lUndo
    rw [lC_0 e]
    show (nI (min (k + 1) 14 - 1)).toInt64 = _
    rw [nI_l (by omega)]
  · unfold sUndo
    rw [if_pos e, pop_push]
theorem kdFall_0 {d z : Nat} (hd : d ≤ 99) (hz : 1 ≤ z ∧ z ≤ 60) : kdFall (nI d) (nI z) = 0 := by
  unfold kdFall
  rw [if_pos]
  exact ⟨fun q => q.elim (nI_pos (by omega)) (nI_nlt (a := 99) hd (by decide)), fun q => q.elim (nI_nlt (b := 1) hz.1 (by omega)) (nI_nlt (a := 60) hz.2 (by decide))⟩
theorem kdO_ok {v lo hi : Nat} (h1 : lo ≤ v) (h2 : v ≤ hi) (h3 : hi < 2 ^ 31) : kdO (nI v) (nI lo) (nI hi) = 0 := by
  unfold kdO
  rw [if_neg (fun q => q.elim (nI_nlt h1 (by omega)) (nI_nlt h2 h3))]
theorem fWould {d z : Nat} (hd : d ≤ 99) (hz : 1 ≤ z ∧ z ≤ 60) : lWouldBe R (nI d) (nI z) = lN (rDrF R (nI d) (nI z)) := by
  have f4 : rDrF R (nI d) (nI z) < 4 := rFt_lt
  unfold lWouldBe
  rw [lC_0 (kdFall_0 hd hz), nI_l (by omega)]
theorem fA2n (ha : KA R c r) {i : Nat} (hi : i < 4) : lAbout R (nI (2 + i)) = lN (c i) := by
  rw [← nI_add]; exact fA2 ha hi
theorem KA.dr (ha : KA R c r) (hw : WFr R T B) {d z : Nat} (hz : 1 ≤ z ∧ z ≤ 60) (hB : B < 2 ^ 29) : KA (rDr R (nI d) (nI z)) (fun i => if i = rDrF R (nI d) (nI z) then c i + 1 else c i) (r + z * z * z) := by
  have hr := ha.rn hw (by omega)
  have e47 := ha.2.2.2.2.1
  have e108 := ha.2.2.2.2.2.1
  unfold rDr
  rw [e47, e108, nI_clamp (by omega), nI_clamp (by omega), rDrM_eq]
  have a1 : KA (rFl (rGo R (nI d)) (nI z)) c r := ha.congr fun i hi => by rw [rFl_o (by omega), rGo_o (by omega)]
  exact a1.en rFt_lt hz (by omega) rfl rfl
theorem rDr_o (hw : WFr R T B) {d z : Nat} {i : Nat} (hi : i < 6 ∨ (10 ≤ i ∧ i < 47)) : rDr R (nI d) (nI z) i = rFl (rGo R (nI d)) (nI z) i := by
  have q47 := hw.2.2.2.2.2.2.2.2.2.2.2.1
  obtain ⟨lf, -, lf2, e47⟩ := q47
  have q := hw.rlen
  unfold rDr
  rw [e47, q.2, nI_clamp (by omega), nI_clamp (by omega), rDrM_eq]
  have f4 : rDrF R (nI d) (nI z) < 4 := rFt_lt
  unfold rEn
  rw [rRc_out (by omega) q.1, rTr_out (by omega) lf2, upR_n (by omega), upR_n (by omega)]
theorem rDr_0 (hw : WFr R T B) {d z : Nat} : rDr R (nI d) (nI z) 0 = R 0 + nI d := by rw [rDr_o hw (by omega), rFl_o (by omega), rGo_0]
theorem rDr_2 (hw : WFr R T B) {d z : Nat} : rDr R (nI d) (nI z) 2 = R 2 := by rw [rDr_o hw (by omega), rFl_o (by omega), rGo_o (by omega)]
theorem rDr_13 (hw : WFr R T B) {d z : Nat} (h : rDrF R (nI d) (nI z) ≤ 1) : rDr R (nI d) (nI z) 13 = 1 := by
  rw [rDr_o hw (by omega)]
  have h : rFt (rGo R (nI d)) (nI z) ≤ 1 := h
  generalize rGo R (nI d) = Q at *
  by_cases mg : Q 13 = 1 ∧ Q 0 - Q 11 < Q 2
  · unfold rFl
    rw [if_pos mg, upR_n (by decide), rMuch_o (by decide)]; exact mg.1
  · have e := (rFl_no (s := nI z) mg).1
    have z0 : rFt Q (nI z) = 0 := by rcases rFx_cases (R := Q) (s := nI z) with q | q | q <;> omega
    unfold rFl
    rw [if_neg mg, if_pos z0]
    unfold rOpn
    rw [rMuch_o (by decide), upR_n (by decide), upR_n (by decide), upR_n (by decide), upR_n (by decide), upR_s]
/-- the latest fate is that of the drop that fell -/
theorem fLast (ha : KA R c r) (hw : WFr R T B) {d z : Nat} (hz : 1 ≤ z ∧ z ≤ 60) (hB : B < 2 ^ 29) : aFate (rDr R (nI d) (nI z)) (rDr R (nI d) (nI z) 47).toNatClampNeg 0 = nI (rDrF R (nI d) (nI z)) := by
  have e47 := ha.2.2.2.2.1
  have e108 := ha.2.2.2.2.2.1
  have e47' := (ha.dr hw (d := d) hz hB).2.2.2.2.1
  have f4 : rDrF R (nI d) (nI z) < 4 := rFt_lt
  have es : nS (fun i => if i = rDrF R (nI d) (nI z) then c i + 1 else c i) 4 = nS c 4 + 1 := nS_one (k := rDrF R (nI d) (nI z)) (fun i hi => by simp [hi]) (by simp) 4 f4
  rw [es] at e47'
  rw [e47', nI_clamp (by omega)]
  unfold aFate
  rw [if_pos (by omega)]
  unfold rDr
  rw [e47, e108, nI_clamp (by omega), nI_clamp (by omega), rDrM_eq]
  unfold rEn
  rw [rRc_out (by omega) (by omega), show min (nS c 4 + 1) 60 - 1 - 0 = min (min (nS c 4) 60 + 1) 60 - 1 - 0 by omega, rTr_r (by omega) (by omega), if_pos rfl]
theorem fScript (ha : KA R c r) (hw : WFr R T B) {d z : Nat} (hd : d ≤ 99) (hz : 1 ≤ z ∧ z ≤ 60) (hB : B < 2 ^ 29) : lScript R 2 (lN (1000000000 + 10000000 * d + 100000 * z + 70000 + rDrF R (nI d) (nI z))) = -9 := by
  have f4 : rDrF R (nI d) (nI z) < 4 := rFt_lt
  have hl := fLast ha hw (d := d) hz hB
  generalize rDrF R (nI d) (nI z) = f at *
  generalize ht : 1000000000 + 10000000 * d + 100000 * z + 70000 + f = t
  have tn : (lN t).toBitVec.toNat = t := by
    show t % 2 ^ 64 = t
    exact Nat.mod_eq_of_lt (by omega)
  have kd : kdScr 2 (lN t) = 0 := by
    unfold kdScr
    rw [if_neg (by decide), if_neg]
    rintro (q | q)
    · have : (lN t).toInt < 0 := Int64.lt_iff_toInt_lt.mp q
      rw [show (lN t).toInt = t from lg_ofNat_toInt (by omega)] at this
      omega
    · apply q
      rw [show (2 : Int32).toNatClampNeg = 2 by decide, kWg_n (by omega), show t / 100000 ^ 2 = 0 from Nat.div_eq_of_lt (by omega)]
      rfl
  unfold lScript
  rw [lC_0 kd]
  have e : aScript R 2 (lN t) = -9 := by
    unfold aScript
    rw [tn, show (2 : Int32).toNatClampNeg = 2 by decide]
    have g0 : gScr t 2 0 = 10000 + 100 * d + z := by unfold gScr; rw [show 2 - 1 - 0 = 1 from rfl, Nat.pow_one]; omega
    have g1 : gScr t 2 1 = 70000 + f := by unfold gScr; rw [show 2 - 1 - 1 = 0 from rfl, Nat.pow_zero, Nat.div_one]; omega
    have b0 : rCmdB R (10000 + 100 * d + z) = true := by
      rw [rCmdB_1 (by omega)]
      exact decide_eq_true (by omega)
    have r0 : rCmdR R (10000 + 100 * d + z) = rDr R (nI d) (nI z) := by
      rw [rCmdR_1 (by omega), if_pos (by omega), show (10000 + 100 * d + z) / 100 % 100 = d by omega, show (10000 + 100 * d + z) % 100 = z by omega]
    have b1 : rCmdB (rDr R (nI d) (nI z)) (70000 + f) = true := by
      rw [rCmdB_7 (by omega)]
      refine decide_eq_true ⟨by omega, ?_⟩
      rw [hl]; congr 1; omega
    rw [aScr, g0, if_pos b0, r0, aScr, g1, if_pos b1, aScr]
  rw [e]
  decide
theorem lt64 {a b : Int32} : a.toInt64 < b.toInt64 ↔ a < b := by
  rw [Int64.lt_iff_toInt_lt, Int32.lt_iff_toInt_lt, Int32.toInt_toInt64, Int32.toInt_toInt64]
theorem rLev_go {t u : Int32} : rLev (rGo R t) u = rLev R u := by unfold rLev; rw [rGo_o (by decide), rGo_o (by decide), rGo_o (by decide), rGo_o (by decide)]
theorem fPass {S : xSp} {q : Nat} (h1 : 1 ≤ q) (h2 : q ≤ 99) : lPass S (nI q) = (rLev S.2.2.1 (S.2.2.1 0 + nI q)).toInt64 ∧ sPass S (nI q) = sNow (sPush S) (rGo S.2.2.1 (nI q)) := by
  have kd : kdO (nI q) 1 99 = 0 := kdO_ok (lo := 1) (hi := 99) h1 h2 (by decide)
  constructor
  · unfold lPass
    rw [lC_0 kd, rLev_go, rGo_0]
  · unfold sPass
    rw [if_pos kd]
theorem fA8g : lAbout R 8 = (rLev R (R 0)).toInt64 := by
  rw [lAbout_v (by decide), show aAbout R 8 = rLev R (R 0) by simp [aAbout]]
theorem aLst_spec {g : Nat → Bool} : ∀ d i, (aLst g d i = -9 ∧ ∀ j, i ≤ j → j < i + d → g j = false) ∨ ∃ j, i ≤ j ∧ j < i + d ∧ aLst g d i = nI j ∧ g j = true ∧ ∀ k, i ≤ k → k < j → g k = false
  | 0, i => Or.inl ⟨rfl, fun j h1 h2 => by omega⟩
  | d + 1, i => by
    by_cases c : g i = true
    · exact Or.inr ⟨i, Nat.le_refl i, by omega, by unfold aLst; rw [if_pos c], c, fun k h1 h2 => by omega⟩
    · have c' : g i = false := by cases h : g i <;> simp_all
      rw [aLst_no c]
      rcases aLst_spec d (i + 1) with ⟨h1, h2⟩ | ⟨j, h1, h2, h3, h4, h5⟩
      · refine Or.inl ⟨h1, fun j a b => ?_⟩
        by_cases e : j = i
        · subst e; exact c'
        · exact h2 j (by omega) (by omega)
      · refine Or.inr ⟨j, by omega, by omega, h3, h4, fun k a b => ?_⟩
        by_cases e : k = i
        · subst e; exact c'
        · exact h5 k (by omega) b
theorem aQui_spec {g : Nat → Bool} : ∀ d i, i ≤ aQui g d i ∧ aQui g d i ≤ i + d ∧ (aQui g d i < i + d → g (aQui g d i) = true) ∧ ∀ k, i ≤ k → k < aQui g d i → g k = false
  | 0, i => ⟨Nat.le_refl i, Nat.le_refl i, fun h => absurd h (Nat.lt_irrefl i), fun k h1 h2 => by have h2 : k < i := h2; omega⟩
  | d + 1, i => by
    by_cases c : g i = true
    · rw [aQui_yes c]
      exact ⟨Nat.le_refl i, by omega, fun _ => c, fun k h1 h2 => by omega⟩
    · have c' : g i = false := by cases h : g i <;> simp_all
      rw [aQui_no c]
      obtain ⟨h1, h2, h3, h4⟩ := aQui_spec (g := g) d (i + 1)
      refine ⟨by omega, by omega, fun h => h3 (by omega), fun k a b => ?_⟩
      by_cases e : k = i
      · subst e; exact c'
      · exact h4 k (by omega) b
/-- the smallest drop that would be counted, by what each would become -/
theorem fLeast {t : Nat} (ht : t ≤ 99) : (lLeastSize R (nI t) = -9 ∧ ∀ s, 1 ≤ s → s ≤ 60 → ¬ rDrF R (nI t) (nI s) = 0) ∨ ∃ j, 1 ≤ j ∧ j ≤ 60 ∧ lLeastSize R (nI t) = lN j ∧ rDrF R (nI t) (nI j) = 0 ∧ ∀ s, 1 ≤ s → s < j → ¬ rDrF R (nI t) (nI s) = 0 := by
  have kd : kdO (nI t) 0 99 = 0 := kdO_ok (lo := 0) (hi := 99) (Nat.zero_le _) ht (by decide)
  unfold lLeastSize aLeast
  rw [lC_0 kd]
  rcases aLst_spec (g := fun i => decide (rDrF R (nI t) (nI i) = 0)) 60 1 with ⟨h1, h2⟩ | ⟨j, h1, h2, h3, h4, h5⟩
  · refine Or.inl ⟨by rw [h1]; decide, fun s s1 s2 => of_decide_eq_false (h2 s s1 (by omega))⟩
  · exact Or.inr ⟨j, h1, by omega, by rw [h3, nI_l (by omega)], of_decide_eq_true h4, fun s s1 s2 => of_decide_eq_false (h5 s s1 s2)⟩
theorem fQuietN {v : Nat} (hv : v ≤ 5000) : ∃ q, q ≤ 117 ∧ lQuietIn R (nI v) = lN q ∧ (q < 117 → ¬ nI v < rLev R (R 0 + nI q)) ∧ ∀ k, k < q → nI v < rLev R (R 0 + nI k) := by
  have kd : kdO (nI v) 0 5000 = 0 := kdO_ok (lo := 0) (hi := 5000) (Nat.zero_le _) hv (by decide)
  obtain ⟨h1, h2, h3, h4⟩ := aQui_spec (g := fun i => decide (¬ nI v < rLev R (R 0 + nI i))) 117 0
  refine ⟨aQuiet R (nI v), ?_, ?_, fun h => ?_, fun k hk => ?_⟩
  · unfold aQuiet; omega
  · unfold lQuietIn
    rw [lC_0 kd, nI_l (by unfold aQuiet; omega)]
  · have := h3 (by unfold aQuiet at h; omega)
    exact of_decide_eq_true this
  · have := h4 k (Nat.zero_le k) hk
    exact Decidable.not_not.mp (of_decide_eq_false this)
theorem rPlay_2 (hw : WFr R T B) {w d : Int32} (hw9 : nb w 0 20) (hd9 : nb d 1 9) (hT : T ≤ 250000) : ∀ k, k ≤ xLr R → rPlay R w d k 2 = w
  | 0, _ => by
    unfold rPlay rSetup
    rw [upR_n (by decide), upR_s]
  | k + 1, hk => by
    obtain ⟨⟨g, g1, eg⟩, z, z1, z2, ez⟩ := hw.rec (show k < xLr R by omega)
    unfold rPlay
    rw [eg, ez, rDr_2 (hw.play hw9 hd9 hT k (by omega)), rPlay_2 hw hw9 hd9 hT k (by omega)]
/-- with no window nothing is merged -/
theorem fNoMerge (hw : WFr R T B) {d : Int32} (hd9 : nb d 1 9) (hT : T ≤ 240000) : nC (fun k => nI (rDrF (rPlay R 0 d k) (R (109 + 2 * k)) (R (110 + 2 * k)))) (nI 1) (xLr R) = 0 := by
  have w0 : nb (0 : Int32) 0 20 := ⟨0, by decide, by decide, rfl⟩
  refine nC_zero _ fun k hk e => ?_
  have f4 : rDrF (rPlay R 0 d k) (R (109 + 2 * k)) (R (110 + 2 * k)) < 4 := rFt_lt
  have f1 : rDrF (rPlay R 0 d k) (R (109 + 2 * k)) (R (110 + 2 * k)) = 1 := (nI_eq (by omega) (by decide)).mp e
  obtain ⟨⟨g, g1, eg⟩, z, z1, z2, ez⟩ := hw.rec hk
  have hp := hw.play w0 hd9 (by omega) k (by omega)
  have h2 := rPlay_2 hw w0 hd9 (by omega) k (by omega)
  have hrl := hw.rlen.1
  rw [eg, ez] at f1
  generalize rPlay R 0 d k = Q at *
  have h40 : k * T ≤ 40 * 240000 := Nat.mul_le_mul (by omega) hT
  obtain ⟨-, -, -, -, -, -, -, -, -, ⟨t0, s0, la, e1, e2, e3, e4, e5, e6⟩, -⟩ := hp
  have f1 : rFt (rGo Q (nI g)) (nI z) = 1 := f1
  by_cases mg : rGo Q (nI g) 13 = 1 ∧ rGo Q (nI g) 0 - rGo Q (nI g) 11 < rGo Q (nI g) 2
  · have q := mg.2
    rw [rGo_0, rGo_o (i := 11) (by decide), rGo_o (i := 2) (by decide), h2, e1, e2, nI_add, pkSub (by omega)] at q
    exact nI_pos (by omega) q
  · have e := (rFl_no (s := nI z) mg).1
    rcases rFx_cases (R := rGo Q (nI g)) (s := nI z) with q | q | q <;> omega
theorem aBest_n {law : Int32} : ∀ k N, k ≤ N → ∃ b, b ≤ N ∧ (b < k ∨ b = 0) ∧ (aBest R law k).1 = nI b
  | 0, N, _ => ⟨0, Nat.zero_le _, Or.inr rfl, rfl⟩
  | k + 1, N, h => by
    rw [aBest]
    by_cases c : k = 0 ∨ rErr R law (nI k) < (aBest R law k).2
    · rw [if_pos c]; exact ⟨k, by omega, Or.inl (by omega), rfl⟩
    · rw [if_neg c]
      obtain ⟨b, h1, h2, h3⟩ := aBest_n k N (by omega)
      exact ⟨b, h1, by omega, h3⟩
theorem fBest {w : Nat} (hw : w ≤ 2) : ∃ b, b ≤ 20 ∧ lBestWindow R (nI w) = lN b := by
  have kd : kdO (nI w) 0 2 = 0 := kdO_ok (lo := 0) (hi := 2) (Nat.zero_le _) hw (by decide)
  obtain ⟨N, hN⟩ : ∃ N, N = 21 := ⟨_, rfl⟩
  obtain ⟨b, h1, h2, h3⟩ := aBest_n (R := R) (law := nI w) N N (Nat.le_refl N)
  refine ⟨b, by omega, ?_⟩
  unfold lBestWindow
  rw [lC_0 kd, ← hN, h3, nI_l (by omega)]
/-- an emptied plate -/
theorem rEmp_z {i : Nat} (h : 23 ≤ i) (h2 : i < 47) : rEmp R i = 0 := by unfold rEmp; rw [if_pos ⟨h, h2⟩]
theorem rEmp_o {i : Nat} (h : i < 23 ∨ 47 ≤ i) : rEmp R i = R i := by unfold rEmp; rw [if_neg (by omega)]
theorem fEmp : lAbout (rEmp R) 6 = 0 ∧ lRain (rEmp R) 2 = 0 := by
  constructor
  · rw [lAbout_v (by decide), show aAbout (rEmp R) 6 = rInB (rEmp R) 0 by simp [aAbout], show rInB (rEmp R) 0 = nI (nS (fun _ => 0) 8) from kSum_nI 8 (fun i hi => rEmp_z (by omega) (by omega))]
    rfl
  · unfold lRain
    rw [lC_0 (by decide)]
    have key : ∀ j, j ≤ 8 → aRain (rEmp R) 2 j = 0 := by
      intro j
      induction j with
      | zero => intro _; rfl
      | succ j ih =>
        intro hj
        unfold aRain
        rw [ih (by omega), rEmp_z (by omega) (by omega)]
        show (0 : Int64) + (0 : Int64) * _ = 0
        rw [Int64.zero_mul, Int64.add_zero]
    exact key 8 (Nat.le_refl 8)
end P87

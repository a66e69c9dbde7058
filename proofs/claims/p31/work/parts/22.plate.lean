/-! ===== the class: Plate ===== -/
/-- the cells of a Plate p: the object, settings, borders, binPulses, binSaturated, binDrops -/
def rPl (n : Nat) (K : xKnd) (G : xRef) (p : Nat) : Prop := xIs n K p 2 12 ∧ G p 1 = some (p + 1) ∧ xIs n K (p + 1) 10 5 ∧ G p 2 = some (p + 2) ∧ xIs n K (p + 2) 10 8 ∧ G p 9 = some (p + 3) ∧ xIs n K (p + 3) 10 8 ∧ G p 10 = some (p + 4) ∧ xIs n K (p + 4) 10 8 ∧ G p 11 = some (p + 5) ∧ xIs n K (p + 5) 10 8
def iPl (M : xMem) (p : Nat) : Prop := (M p 3 = 0 ∨ M p 3 = 1) ∧ (M p 6 = 0 ∨ M p 6 = 1) ∧ (M p 8 = 0 ∨ M p 8 = 1)
def kStr (M : xMem) (p : Nat) (s : Int32) : Int32 := s * s * (100 - 2 * M (p + 1) 0) / 100
def kHal (M : xMem) (p : Nat) (t : Int32) : Int32 := (t - M p 4) / M (p + 1) 2
def kLev (M : xMem) (p : Nat) (t : Int32) : Int32 := if M p 3 = 0 ∨ M (p + 1) 2 < 1 then 0 else if kHal M p t < 0 ∨ 13 < kHal M p t then 0 else M p 5 >>> (kHal M p t &&& 31)
def kFate (M : xMem) (p : Nat) (t a : Int32) : Int32 := if ¬ M p 6 = 0 ∧ t - M p 4 < M (p + 1) 1 then 1 else if a < M (p + 1) 3 then 3 else if a < kLev M p t then 2 else 0
def kStrike (M : xMem) (p : Nat) (w : Int32) : xMem := if M (p + 1) 4 < w then xup (xup M p 8 1) p 5 (M (p + 1) 4) else xup M p 5 w
def kBin (M : xMem) (p : Nat) (h : Int32) : Nat → Nat
  | 0 => 0
  | k + 1 => if h < M (p + 2) (k + 1) then kBin M p h k else k + 1
def kClose (M : xMem) (p : Nat) : xMem :=
  if M p 6 = 0 then M else
    let k := kBin M p (M p 5) 7
    let M2 := xup (xup M (p + 3) k (M (p + 3) k + 1)) (p + 5) k (M (p + 5) k + M p 7)
    xup (if M p 8 = 0 then M2 else xup M2 (p + 4) k (M (p + 4) k + 1)) p 6 0
def kOpen (M : xMem) (p : Nat) (w : Int32) : xMem := kStrike (xup (xup (xup (xup (xup M p 3 1) p 4 (M p 0)) p 6 1) p 7 1) p 8 0) p w
def kTick (M : xMem) (p : Nat) (t : Int32) : xMem := xup M p 0 (M p 0 + t)
def kRcF (M : xMem) (p : Nat) (s : Int32) : Int32 := kFate M p (M p 0) (kStr M p s)
def kRcM (M : xMem) (p : Nat) (s : Int32) : xMem :=
  if kRcF M p s = 1 then
    let M2 := kStrike M p (M p 5 + kStr M p s)
    xup M2 p 7 (M2 p 7 + 1)
  else if kRcF M p s = 0 then kOpen (kClose M p) p (kStr M p s + kLev (kClose M p) p ((kClose M p) p 0) / 2) else kClose M p
def kPass (M : xMem) (p : Nat) (t : Int32) : xMem := if ¬ kTick M p t p 6 = 0 ∧ ¬ kTick M p t p 0 - kTick M p t p 4 < kTick M p t (p + 1) 1 then kClose (kTick M p t) p else kTick M p t
def kLow (M : xMem) (p k : Nat) : Int32 := M (p + 2) k
def kUp (M : xMem) (p k : Nat) : Int32 := if k < 7 then M (p + 2) (k + 1) - 1 else 5000
def kEnd (M : xMem) (p k : Nat) (w : Int32) : Int32 := if w = 0 then kLow M p k else if w = 1 then (kLow M p k + kUp M p k) / 2 else kUp M p k
def kRain (M : xMem) (p : Nat) (w : Int32) : Nat → Int64
  | 0 => 0
  | k + 1 => kRain M p w k + (M (p + 3) k).toInt64 * kCube (kRoot (kEnd M p k w))
def kSetCp (M : xMem) (a b : Nat) : xMem := xcp (xcp M (a + 1) (b + 1) 5) (a + 2) (b + 2) 8
def kPlCp (M : xMem) (a b : Nat) : xMem :=
  let M2 := xup (xup (xup (xup (xup (xup (xup (kSetCp M a b) b 0 (M a 0)) b 3 (M a 3)) b 4 (M a 4)) b 5 (M a 5)) b 6 (M a 6)) b 7 (M a 7)) b 8 (M a 8)
  xcp (xcp (xcp M2 (a + 3) (b + 3) 8) (a + 4) (b + 4) 8) (a + 5) (b + 5) 8
def kEmp (M : xMem) (p : Nat) : xMem := xcl (xcl (xcl M (p + 3) 8) (p + 4) 8) (p + 5) 8
theorem kBin_le {M : xMem} {p : Nat} {h : Int32} : ∀ k, kBin M p h k ≤ k
  | 0 => Nat.le_refl 0
  | k + 1 => by unfold kBin; split; exact Nat.le_succ_of_le (kBin_le k); exact Nat.le_refl _
section C22
variable {E : xEnv} {l : Launch} {x : Bool} {n : Nat} {K : xKnd} {G : xRef} {M : xMem} {L : xLng}
theorem c_X2_strengthOf {p : Nat} (h : rPl n K G p) (s : Int32) : Con E l Y_X2_strengthOf [.ref p, .int s] (x, n, K, G, M, L) (xR (some (.int (kStr M p s))) (x, n, K, G, M, L)) xF := by
  obtain ⟨h0, g1, h1, g2, h2, g3, h3, g4, h4, g5, h5⟩ := h
  refine Con.mk 0 mp_X2_strengthOf rfl (ls := [some (.ref p), some (.int s)]) rfl (Nat.le_of_ble_eq_true rfl) ?_
  refine V_ild1 dX2_strengthOf_0 ?_
  refine V_ild1 dX2_strengthOf_1 ?_
  refine V_imul dX2_strengthOf_2 ?_
  refine V_bipush (v := 100) dX2_strengthOf_3 (by decide) ?_
  refine V_iconst (v := 2) dX2_strengthOf_5 (by decide) ?_
  refine V_ald0 dX2_strengthOf_6 ?_
  refine V_getR fd_X2_15 dX2_strengthOf_7 (by assumption) (by assumption) rfl ?_
  refine V_iconst (v := 0) dX2_strengthOf_10 (by decide) ?_
  refine V_iald (j := 0) dX2_strengthOf_11 (by assumption) (by decide) (by decide) ?_
  refine V_imul dX2_strengthOf_12 ?_
  refine V_isub dX2_strengthOf_13 ?_
  refine V_imul dX2_strengthOf_14 ?_
  refine V_bipush (v := 100) dX2_strengthOf_15 (by decide) ?_
  refine V_idiv dX2_strengthOf_17 (by decide) ?_
  exact V_iret rfl dX2_strengthOf_18 (by decide) (by decide) ⟨rfl, rfl⟩
theorem c_X2_levelAt {p : Nat} (h : rPl n K G p) (t : Int32) : Con E l Y_X2_levelAt [.ref p, .int t] (x, n, K, G, M, L) (xR (some (.int (kLev M p t))) (x, n, K, G, M, L)) xF := by
  obtain ⟨h0, g1, h1, g2, h2, g3, h3, g4, h4, g5, h5⟩ := h
  refine Con.mk 2 mp_X2_levelAt rfl (ls := [some (.ref p), some (.int t), none, none]) rfl (Nat.le_of_ble_eq_true rfl) ?_
  refine V_ald0 dX2_levelAt_0 ?_
  refine V_getR fd_X2_15 dX2_levelAt_1 (by assumption) (by assumption) rfl ?_
  refine V_iconst (v := 2) dX2_levelAt_4 (by decide) ?_
  refine V_iald (j := 2) dX2_levelAt_5 (by assumption) (by decide) (by decide) ?_
  refine V_ist2 dX2_levelAt_6 rfl (by decide) ?_
  refine V_ald0 dX2_levelAt_7 ?_
  refine V_getI fd_X2_22 dX2_levelAt_8 (by assumption) rfl ?_
  refine V_if_eq (tgt := 19) dX2_levelAt_11 (by decide) (fun h11 => ?_) (fun h11 => ?_)
  · refine V_iconst (v := 0) dX2_levelAt_19 (by decide) ?_
    exact V_iret rfl dX2_levelAt_20 (by decide) (by decide) ⟨by simp [kLev, *], rfl⟩
  · refine V_ild2 dX2_levelAt_14 ?_
    refine V_iconst (v := 1) dX2_levelAt_15 (by decide) ?_
    refine V_icmp_ge (tgt := 21) dX2_levelAt_16 (by decide) (fun h16 => ?_) (fun h16 => ?_)
    · refine V_ild1 dX2_levelAt_21 ?_
      refine V_ald0 dX2_levelAt_22 ?_
      refine V_getI fd_X2_26 dX2_levelAt_23 (by assumption) rfl ?_
      refine V_isub dX2_levelAt_26 ?_
      refine V_ild2 dX2_levelAt_27 ?_
      refine V_idiv dX2_levelAt_28 (fun q => h16 (by rw [q]; decide)) ?_
      refine V_ist3 dX2_levelAt_29 rfl (by decide) ?_
      refine V_ild3 dX2_levelAt_30 ?_
      refine V_iconst (v := 0) dX2_levelAt_31 (by decide) ?_
      refine V_bipush (v := 13) dX2_levelAt_32 (by decide) ?_
      refine V_cs3R lk_X2_50 cc_X5_isOutside dX2_levelAt_34 (c_X5_isOutside _ _ _) ft_X2_levelAt_X5_isOutside rfl rfl (Nat.le_of_ble_eq_true rfl) ?_
      refine V_if_eq (tgt := 44) dX2_levelAt_37 (by decide) (fun h37 => ?_) (fun h37 => ?_)
      · refine V_ald0 dX2_levelAt_44 ?_
        refine V_getI fd_X2_29 dX2_levelAt_45 (by assumption) rfl ?_
        refine V_ild3 dX2_levelAt_48 ?_
        refine V_ishr dX2_levelAt_49 ?_
        exact V_iret rfl dX2_levelAt_50 (by decide) (by decide) ⟨by simp only [bI0, Decidable.not_not] at h37; simp only [kLev, kHal]; simp [*], rfl⟩
      · refine V_iconst (v := 0) dX2_levelAt_40 (by decide) ?_
        refine V_goto (tgt := 50) dX2_levelAt_41 (by decide) ?_
        exact V_iret rfl dX2_levelAt_50 (by decide) (by decide) ⟨by simp only [bI0, Decidable.not_not] at h37; simp only [kLev, kHal]; simp [*], rfl⟩
    · refine V_iconst (v := 0) dX2_levelAt_19 (by decide) ?_
      exact V_iret rfl dX2_levelAt_20 (by decide) (by decide) ⟨by simp [kLev, *], rfl⟩
theorem c_X2_fateOf {p : Nat} (h : rPl n K G p) (t a : Int32) : Con E l Y_X2_fateOf [.ref p, .int t, .int a] (x, n, K, G, M, L) (xR (some (.int (kFate M p t a))) (x, n, K, G, M, L)) xF := by
  have hr := h
  obtain ⟨h0, g1, h1, g2, h2, g3, h3, g4, h4, g5, h5⟩ := h
  refine Con.mk 0 mp_X2_fateOf rfl (ls := [some (.ref p), some (.int t), some (.int a)]) rfl (Nat.le_of_ble_eq_true rfl) ?_
  refine V_ald0 dX2_fateOf_0 ?_
  refine V_getI fd_X2_32 dX2_fateOf_1 (by assumption) rfl ?_
  refine V_if_eq (tgt := 24) dX2_fateOf_4 (by decide) (fun h4 => ?_) (fun h4 => ?_)
  · refine V_ild2 dX2_fateOf_24 ?_
    refine V_ald0 dX2_fateOf_25 ?_
    refine V_getR fd_X2_15 dX2_fateOf_26 (by assumption) (by assumption) rfl ?_
    refine V_iconst (v := 3) dX2_fateOf_29 (by decide) ?_
    refine V_iald (j := 3) dX2_fateOf_30 (by assumption) (by decide) (by decide) ?_
    refine V_icmp_ge (tgt := 36) dX2_fateOf_31 (by decide) (fun h31 => ?_) (fun h31 => ?_)
    · refine V_ald0 dX2_fateOf_36 ?_
      refine V_ild1 dX2_fateOf_37 ?_
      refine V_cv1R lk_X2_54 cc_X2_levelAt dX2_fateOf_38 (by assumption) (c_X2_levelAt hr _) ft_X2_fateOf_X2_levelAt rfl rfl (Nat.le_of_ble_eq_true rfl) ?_
      refine V_ild2 dX2_fateOf_41 ?_
      refine V_icmp_le (tgt := 49) dX2_fateOf_42 (by decide) (fun h42 => ?_) (fun h42 => ?_)
      · refine V_iconst (v := 0) dX2_fateOf_49 (by decide) ?_
        exact V_iret rfl dX2_fateOf_50 (by decide) (by decide) ⟨by simp [kFate, *], rfl⟩
      · refine V_iconst (v := 2) dX2_fateOf_45 (by decide) ?_
        refine V_goto (tgt := 50) dX2_fateOf_46 (by decide) ?_
        exact V_iret rfl dX2_fateOf_50 (by decide) (by decide) ⟨by simp [kFate, *], rfl⟩
    · refine V_iconst (v := 3) dX2_fateOf_34 (by decide) ?_
      exact V_iret rfl dX2_fateOf_35 (by decide) (by decide) ⟨by simp [kFate, *], rfl⟩
  · refine V_ild1 dX2_fateOf_7 ?_
    refine V_ald0 dX2_fateOf_8 ?_
    refine V_getI fd_X2_26 dX2_fateOf_9 (by assumption) rfl ?_
    refine V_isub dX2_fateOf_12 ?_
    refine V_ald0 dX2_fateOf_13 ?_
    refine V_getR fd_X2_15 dX2_fateOf_14 (by assumption) (by assumption) rfl ?_
    refine V_iconst (v := 1) dX2_fateOf_17 (by decide) ?_
    refine V_iald (j := 1) dX2_fateOf_18 (by assumption) (by decide) (by decide) ?_
    refine V_icmp_ge (tgt := 24) dX2_fateOf_19 (by decide) (fun h19 => ?_) (fun h19 => ?_)
    · refine V_ild2 dX2_fateOf_24 ?_
      refine V_ald0 dX2_fateOf_25 ?_
      refine V_getR fd_X2_15 dX2_fateOf_26 (by assumption) (by assumption) rfl ?_
      refine V_iconst (v := 3) dX2_fateOf_29 (by decide) ?_
      refine V_iald (j := 3) dX2_fateOf_30 (by assumption) (by decide) (by decide) ?_
      refine V_icmp_ge (tgt := 36) dX2_fateOf_31 (by decide) (fun h31 => ?_) (fun h31 => ?_)
      · refine V_ald0 dX2_fateOf_36 ?_
        refine V_ild1 dX2_fateOf_37 ?_
        refine V_cv1R lk_X2_54 cc_X2_levelAt dX2_fateOf_38 (by assumption) (c_X2_levelAt hr _) ft_X2_fateOf_X2_levelAt rfl rfl (Nat.le_of_ble_eq_true rfl) ?_
        refine V_ild2 dX2_fateOf_41 ?_
        refine V_icmp_le (tgt := 49) dX2_fateOf_42 (by decide) (fun h42 => ?_) (fun h42 => ?_)
        · refine V_iconst (v := 0) dX2_fateOf_49 (by decide) ?_
          exact V_iret rfl dX2_fateOf_50 (by decide) (by decide) ⟨by simp [kFate, *], rfl⟩
        · refine V_iconst (v := 2) dX2_fateOf_45 (by decide) ?_
          refine V_goto (tgt := 50) dX2_fateOf_46 (by decide) ?_
          exact V_iret rfl dX2_fateOf_50 (by decide) (by decide) ⟨by simp [kFate, *], rfl⟩
      · refine V_iconst (v := 3) dX2_fateOf_34 (by decide) ?_
        exact V_iret rfl dX2_fateOf_35 (by decide) (by decide) ⟨by simp [kFate, *], rfl⟩
    · refine V_iconst (v := 1) dX2_fateOf_22 (by decide) ?_
      exact V_iret rfl dX2_fateOf_23 (by decide) (by decide) ⟨by simp [kFate, *], rfl⟩
theorem xup_struck (M : xMem) (p : Nat) (w v : Int32) : xup (xup (xup M p 5 w) p 5 v) p 8 1 = xup (xup M p 8 1) p 5 v := by
  funext k i
  simp only [xup]
  by_cases hk : k = p <;> by_cases h5 : i = 5 <;> by_cases h8 : i = 8 <;> simp [hk, h5, h8]
theorem c_X2_strike {p : Nat} (h : rPl n K G p) (w : Int32) : Con E l Y_X2_strike [.ref p, .int w] (x, n, K, G, M, L) (xR none (x, n, K, G, kStrike M p w, L)) xF := by
  obtain ⟨h0, g1, h1, g2, h2, g3, h3, g4, h4, g5, h5⟩ := h
  refine Con.mk 0 mp_X2_strike rfl (ls := [some (.ref p), some (.int w)]) rfl (Nat.le_of_ble_eq_true rfl) ?_
  refine V_ald0 dX2_strike_0 ?_
  refine V_ild1 dX2_strike_1 ?_
  refine V_putI fw_X2_29 dX2_strike_2 (by assumption) rfl ?_
  refine V_ald0 dX2_strike_5 ?_
  refine V_getI fd_X2_29 dX2_strike_6 (by assumption) rfl ?_
  refine V_ald0 dX2_strike_9 ?_
  refine V_getR fd_X2_15 dX2_strike_10 (by assumption) (by assumption) rfl ?_
  refine V_iconst (v := 4) dX2_strike_13 (by decide) ?_
  refine V_iald (j := 4) dX2_strike_14 (by assumption) (by decide) (by decide) ?_
  refine V_icmp_le (tgt := 33) dX2_strike_15 (by decide) (fun h15 => ?_) (fun h15 => ?_)
  · exact V_vret rfl dX2_strike_33 (by decide) (by decide) ⟨rfl, by rw [xup_s, xup_k (by omega)] at h15; simp [kStrike, xup_k, xup_struck, h15]⟩
  · refine V_ald0 dX2_strike_18 ?_
    refine V_ald0 dX2_strike_19 ?_
    refine V_getR fd_X2_15 dX2_strike_20 (by assumption) (by assumption) rfl ?_
    refine V_iconst (v := 4) dX2_strike_23 (by decide) ?_
    refine V_iald (j := 4) dX2_strike_24 (by assumption) (by decide) (by decide) ?_
    refine V_putI fw_X2_29 dX2_strike_25 (by assumption) rfl ?_
    refine V_ald0 dX2_strike_28 ?_
    refine V_iconst (v := 1) dX2_strike_29 (by decide) ?_
    refine V_putZ fw_X2_38 dX2_strike_30 (by assumption) (Or.inr rfl) rfl ?_
    exact V_vret rfl dX2_strike_33 (by decide) (by decide) ⟨rfl, by rw [xup_s, xup_k (by omega)] at h15; simp [kStrike, xup_k, xup_struck, h15]⟩
theorem c_X2_openPulse {p : Nat} (h : rPl n K G p) (w : Int32) : Con E l Y_X2_openPulse [.ref p, .int w] (x, n, K, G, M, L) (xR none (x, n, K, G, kOpen M p w, L)) xF := by
  have hr := h
  obtain ⟨h0, g1, h1, g2, h2, g3, h3, g4, h4, g5, h5⟩ := h
  refine Con.mk 0 mp_X2_openPulse rfl (ls := [some (.ref p), some (.int w)]) rfl (Nat.le_of_ble_eq_true rfl) ?_
  refine V_ald0 dX2_openPulse_0 ?_
  refine V_iconst (v := 1) dX2_openPulse_1 (by decide) ?_
  refine V_putZ fw_X2_22 dX2_openPulse_2 (by assumption) (Or.inr rfl) rfl ?_
  refine V_ald0 dX2_openPulse_5 ?_
  refine V_ald0 dX2_openPulse_6 ?_
  refine V_getI fd_X2_9 dX2_openPulse_7 (by assumption) rfl ?_
  rw [show xup M p 3 1 p 0 = M p 0 from xup_i (by decide)]
  refine V_putI fw_X2_26 dX2_openPulse_10 (by assumption) rfl ?_
  refine V_ald0 dX2_openPulse_13 ?_
  refine V_iconst (v := 1) dX2_openPulse_14 (by decide) ?_
  refine V_putZ fw_X2_32 dX2_openPulse_15 (by assumption) (Or.inr rfl) rfl ?_
  refine V_ald0 dX2_openPulse_18 ?_
  refine V_iconst (v := 1) dX2_openPulse_19 (by decide) ?_
  refine V_putI fw_X2_35 dX2_openPulse_20 (by assumption) rfl ?_
  refine V_ald0 dX2_openPulse_23 ?_
  refine V_iconst (v := 0) dX2_openPulse_24 (by decide) ?_
  refine V_putZ fw_X2_38 dX2_openPulse_25 (by assumption) (Or.inl rfl) rfl ?_
  refine V_ald0 dX2_openPulse_28 ?_
  refine V_ild1 dX2_openPulse_29 ?_
  refine V_cv1U lk_X2_65 cc_X2_strike dX2_openPulse_30 (by assumption) (c_X2_strike hr _) ft_X2_openPulse_X2_strike rfl rfl (Nat.le_of_ble_eq_true rfl) ?_
  exact V_vret rfl dX2_openPulse_33 (by decide) (by decide) ⟨rfl, rfl⟩
theorem c_X2_binOf {p : Nat} (h : rPl n K G p) (w : Int32) : Con E l Y_X2_binOf [.ref p, .int w] (x, n, K, G, M, L) (xR (some (.int (nI (kBin M p w 7)))) (x, n, K, G, M, L)) xF := by
  obtain ⟨h0, g1, h1, g2, h2, g3, h3, g4, h4, g5, h5⟩ := h
  refine Con.mk 1 mp_X2_binOf rfl (ls := [some (.ref p), some (.int w), none]) rfl (Nat.le_of_ble_eq_true rfl) ?_
  have loop : ∀ k, k ≤ 7 → V E l Y_X2_binOf (xQm E Y_X2_binOf (xR (some (.int (nI (kBin M p w k)))) (x, n, K, G, M, L)) xF) (x, n, K, G, M, L) (0, 0) 3 [some (.ref p), some (.int w), some (.int (nI k))] [] := by
    intro k
    induction k with
    | zero =>
      intro hk
      refine V_ild2 dX2_binOf_3 ?_
      refine V_if_le (tgt := 25) dX2_binOf_4 (by decide) (fun h4_1 => ?_) (fun h4_1 => ?_)
      · refine V_iconst (v := 0) dX2_binOf_25 (by decide) ?_
        exact V_iret rfl dX2_binOf_26 (by decide) (by decide) ⟨rfl, rfl⟩
      · exact absurd h4_1 (by decide)
    | succ k ih =>
      intro hk
      refine V_ild2 dX2_binOf_3 ?_
      refine V_if_le (tgt := 25) dX2_binOf_4 (by decide) (fun h4_1 => ?_) (fun h4_1 => ?_)
      · exact absurd (nI_lt (a := 0) (by omega) (by omega)) h4_1
      · refine V_ald0 dX2_binOf_7 ?_
        refine V_getR fd_X2_19 dX2_binOf_8 (by assumption) (by assumption) rfl ?_
        refine V_ild2 dX2_binOf_11 ?_
        refine V_iald (j := k + 1) dX2_binOf_12 (by assumption) rfl (by omega) ?_
        refine V_ild1 dX2_binOf_13 ?_
        refine V_icmp_gt (tgt := 19) dX2_binOf_14 (by decide) (fun h14 => ?_) (fun h14 => ?_)
        · refine V_inc2 dX2_binOf_19 rfl (pk_m1 k) ?_
          refine V_goto (tgt := 3) dX2_binOf_22 (by decide) ?_
          have := ih (by omega)
          simpa [kBin, h14] using this
        · refine V_ild2 dX2_binOf_17 ?_
          exact V_iret rfl dX2_binOf_18 (by decide) (by decide) ⟨by simp only [kBin]; rw [if_neg h14], rfl⟩
  refine V_bipush (v := 7) dX2_binOf_0 (by decide) ?_
  refine V_ist2 dX2_binOf_2 rfl (by decide) ?_
  exact loop 7 (by omega)
theorem c_X2_closePulse {p : Nat} (h : rPl n K G p) : Con E l Y_X2_closePulse [.ref p] (x, n, K, G, M, L) (xR none (x, n, K, G, kClose M p, L)) xF := by
  have hr := h
  obtain ⟨h0, g1, h1, g2, h2, g3, h3, g4, h4, g5, h5⟩ := h
  have hb := kBin_le (M := M) (p := p) (h := M p 5) 7
  refine Con.mk 1 mp_X2_closePulse rfl (ls := [some (.ref p), none]) rfl (Nat.le_of_ble_eq_true rfl) ?_
  refine V_ald0 dX2_closePulse_0 ?_
  refine V_getI fd_X2_32 dX2_closePulse_1 (by assumption) rfl ?_
  refine V_if_ne (tgt := 8) dX2_closePulse_4 (by decide) (fun h4_1 => ?_) (fun h4_1 => ?_)
  · refine V_ald0 dX2_closePulse_8 ?_
    refine V_ald0 dX2_closePulse_9 ?_
    refine V_getI fd_X2_29 dX2_closePulse_10 (by assumption) rfl ?_
    refine V_cv1R lk_X2_75 cc_X2_binOf dX2_closePulse_13 (by assumption) (c_X2_binOf hr _) ft_X2_closePulse_X2_binOf rfl rfl (Nat.le_of_ble_eq_true rfl) ?_
    refine V_ist1 dX2_closePulse_16 rfl (by decide) ?_
    refine V_ald0 dX2_closePulse_17 ?_
    refine V_getR fd_X2_41 dX2_closePulse_18 (by assumption) (by assumption) rfl ?_
    refine V_ild1 dX2_closePulse_21 ?_
    refine V_dup2 dX2_closePulse_22 rfl rfl ?_
    refine V_iald (j := kBin M p (M p 5) 7) dX2_closePulse_23 (by assumption) rfl (by omega) ?_
    refine V_iconst (v := 1) dX2_closePulse_24 (by decide) ?_
    refine V_iadd dX2_closePulse_25 ?_
    refine V_iast (j := kBin M p (M p 5) 7) dX2_closePulse_26 (by assumption) rfl (by omega) ?_
    refine V_ald0 dX2_closePulse_27 ?_
    refine V_getR fd_X2_47 dX2_closePulse_28 (by assumption) (by assumption) rfl ?_
    refine V_ild1 dX2_closePulse_31 ?_
    refine V_dup2 dX2_closePulse_32 rfl rfl ?_
    refine V_iald (j := kBin M p (M p 5) 7) dX2_closePulse_33 (by assumption) rfl (by omega) ?_
    refine V_ald0 dX2_closePulse_34 ?_
    refine V_getI fd_X2_35 dX2_closePulse_35 (by assumption) rfl ?_
    refine V_iadd dX2_closePulse_38 ?_
    refine V_iast (j := kBin M p (M p 5) 7) dX2_closePulse_39 (by assumption) rfl (by omega) ?_
    refine V_ald0 dX2_closePulse_40 ?_
    refine V_getI fd_X2_38 dX2_closePulse_41 (by assumption) rfl ?_
    refine V_if_eq (tgt := 57) dX2_closePulse_44 (by decide) (fun h44 => ?_) (fun h44 => ?_)
    · refine V_ald0 dX2_closePulse_57 ?_
      refine V_iconst (v := 0) dX2_closePulse_58 (by decide) ?_
      refine V_putZ fw_X2_32 dX2_closePulse_59 (by assumption) (Or.inl rfl) rfl ?_
      exact V_vret rfl dX2_closePulse_62 (by decide) (by decide) ⟨rfl, by simp [xup_k] at h44; simp [kClose, xup_k, *]⟩
    · refine V_ald0 dX2_closePulse_47 ?_
      refine V_getR fd_X2_44 dX2_closePulse_48 (by assumption) (by assumption) rfl ?_
      refine V_ild1 dX2_closePulse_51 ?_
      refine V_dup2 dX2_closePulse_52 rfl rfl ?_
      refine V_iald (j := kBin M p (M p 5) 7) dX2_closePulse_53 (by assumption) rfl (by omega) ?_
      refine V_iconst (v := 1) dX2_closePulse_54 (by decide) ?_
      refine V_iadd dX2_closePulse_55 ?_
      refine V_iast (j := kBin M p (M p 5) 7) dX2_closePulse_56 (by assumption) rfl (by omega) ?_
      refine V_ald0 dX2_closePulse_57 ?_
      refine V_iconst (v := 0) dX2_closePulse_58 (by decide) ?_
      refine V_putZ fw_X2_32 dX2_closePulse_59 (by assumption) (Or.inl rfl) rfl ?_
      exact V_vret rfl dX2_closePulse_62 (by decide) (by decide) ⟨rfl, by simp [xup_k] at h44; simp [kClose, xup_k, *]⟩
  · exact V_vret rfl dX2_closePulse_7 (by decide) (by decide) ⟨rfl, by simp [kClose, *]⟩
theorem c_X2_receive {p : Nat} (h : rPl n K G p) (t s : Int32) : Con E l Y_X2_receive [.ref p, .int t, .int s] (x, n, K, G, M, L) (xR (some (.int (kRcF (kTick M p t) p s))) (x, n, K, G, kRcM (kTick M p t) p s, L)) xF := by
  have hr := h
  obtain ⟨h0, g1, h1, g2, h2, g3, h3, g4, h4, g5, h5⟩ := h
  refine Con.mk 2 mp_X2_receive rfl (ls := [some (.ref p), some (.int t), some (.int s), none, none]) rfl (Nat.le_of_ble_eq_true rfl) ?_
  refine V_ald0 dX2_receive_0 ?_
  refine V_dup dX2_receive_1 rfl ?_
  refine V_getI fd_X2_9 dX2_receive_2 (by assumption) rfl ?_
  refine V_ild1 dX2_receive_5 ?_
  refine V_iadd dX2_receive_6 ?_
  refine V_putI fw_X2_9 dX2_receive_7 (by assumption) rfl ?_
  show V _ _ _ _ (x, n, K, G, kTick M p t, L) _ _ _ _
  refine V_ald0 dX2_receive_10 ?_
  refine V_ild2 dX2_receive_11 ?_
  refine V_cv1R lk_X2_58 cc_X2_strengthOf dX2_receive_12 (by assumption) (c_X2_strengthOf hr _) ft_X2_receive_X2_strengthOf rfl rfl (Nat.le_of_ble_eq_true rfl) ?_
  refine V_ist3 dX2_receive_15 rfl (by decide) ?_
  refine V_ald0 dX2_receive_16 ?_
  refine V_ald0 dX2_receive_17 ?_
  refine V_getI fd_X2_9 dX2_receive_18 (by assumption) rfl ?_
  refine V_ild3 dX2_receive_21 ?_
  refine V_cv2R lk_X2_61 cc_X2_fateOf dX2_receive_22 (by assumption) (c_X2_fateOf hr _ _) ft_X2_receive_X2_fateOf rfl rfl (Nat.le_of_ble_eq_true rfl) ?_
  refine V_topi (fun f hf => ?_)
  refine V_ist4 dX2_receive_25 rfl (by decide) ?_
  refine V_ild4 dX2_receive_27 ?_
  refine V_iconst (v := 1) dX2_receive_29 (by decide) ?_
  refine V_icmp_ne (tgt := 56) dX2_receive_30 (by decide) (fun h30 => ?_) (fun h30 => ?_)
  · refine V_ald0 dX2_receive_56 ?_
    refine V_cv0U lk_X2_69 cc_X2_closePulse dX2_receive_57 (by assumption) (c_X2_closePulse hr) ft_X2_receive_X2_closePulse rfl rfl (Nat.le_of_ble_eq_true rfl) ?_
    refine V_ild4 dX2_receive_60 ?_
    refine V_if_ne (tgt := 81) dX2_receive_62 (by decide) (fun h62 => ?_) (fun h62 => ?_)
    · refine V_ild4 dX2_receive_81 ?_
      exact V_iret rfl dX2_receive_83 (by decide) (by decide) ⟨by rw [hf]; rfl, by
  have e : kRcF (kTick M p t) p s = f := hf.symm
  unfold kRcM
  rw [e, if_neg h30]
  first | rw [if_pos h62] | rw [if_neg h62]⟩
    · refine V_ald0 dX2_receive_65 ?_
      refine V_ild3 dX2_receive_66 ?_
      refine V_ald0 dX2_receive_67 ?_
      refine V_ald0 dX2_receive_68 ?_
      refine V_getI fd_X2_9 dX2_receive_69 (by assumption) rfl ?_
      refine V_cv1R lk_X2_54 cc_X2_levelAt dX2_receive_72 (by assumption) (c_X2_levelAt hr _) ft_X2_receive_X2_levelAt rfl rfl (Nat.le_of_ble_eq_true rfl) ?_
      refine V_iconst (v := 2) dX2_receive_75 (by decide) ?_
      refine V_idiv dX2_receive_76 (by decide) ?_
      refine V_iadd dX2_receive_77 ?_
      refine V_cv1U lk_X2_72 cc_X2_openPulse dX2_receive_78 (by assumption) (c_X2_openPulse hr _) ft_X2_receive_X2_openPulse rfl rfl (Nat.le_of_ble_eq_true rfl) ?_
      refine V_ild4 dX2_receive_81 ?_
      exact V_iret rfl dX2_receive_83 (by decide) (by decide) ⟨by rw [hf]; rfl, by
  have e : kRcF (kTick M p t) p s = f := hf.symm
  unfold kRcM
  rw [e, if_neg h30]
  first | rw [if_pos h62] | rw [if_neg h62]⟩
  · refine V_ald0 dX2_receive_33 ?_
    refine V_ald0 dX2_receive_34 ?_
    refine V_getI fd_X2_29 dX2_receive_35 (by assumption) rfl ?_
    refine V_ild3 dX2_receive_38 ?_
    refine V_iadd dX2_receive_39 ?_
    refine V_cv1U lk_X2_65 cc_X2_strike dX2_receive_40 (by assumption) (c_X2_strike hr _) ft_X2_receive_X2_strike rfl rfl (Nat.le_of_ble_eq_true rfl) ?_
    refine V_ald0 dX2_receive_43 ?_
    refine V_dup dX2_receive_44 rfl ?_
    refine V_getI fd_X2_35 dX2_receive_45 (by assumption) rfl ?_
    refine V_iconst (v := 1) dX2_receive_48 (by decide) ?_
    refine V_iadd dX2_receive_49 ?_
    refine V_putI fw_X2_35 dX2_receive_50 (by assumption) rfl ?_
    refine V_ild4 dX2_receive_53 ?_
    exact V_iret rfl dX2_receive_55 (by decide) (by decide) ⟨by rw [hf]; rfl, by
  have e : kRcF (kTick M p t) p s = f := hf.symm
  simp only [kRcM, e, h30, if_true]⟩
theorem c_X2_letPass {p : Nat} (h : rPl n K G p) (t : Int32) : Con E l Y_X2_letPass [.ref p, .int t] (x, n, K, G, M, L) (xR none (x, n, K, G, kPass M p t, L)) xF := by
  have hr := h
  obtain ⟨h0, g1, h1, g2, h2, g3, h3, g4, h4, g5, h5⟩ := h
  refine Con.mk 0 mp_X2_letPass rfl (ls := [some (.ref p), some (.int t)]) rfl (Nat.le_of_ble_eq_true rfl) ?_
  refine V_ald0 dX2_letPass_0 ?_
  refine V_dup dX2_letPass_1 rfl ?_
  refine V_getI fd_X2_9 dX2_letPass_2 (by assumption) rfl ?_
  refine V_ild1 dX2_letPass_5 ?_
  refine V_iadd dX2_letPass_6 ?_
  refine V_putI fw_X2_9 dX2_letPass_7 (by assumption) rfl ?_
  show V _ _ _ _ (x, n, K, G, kTick M p t, L) _ _ _ _
  refine V_ald0 dX2_letPass_10 ?_
  refine V_getI fd_X2_32 dX2_letPass_11 (by assumption) rfl ?_
  refine V_if_eq (tgt := 39) dX2_letPass_14 (by decide) (fun h14 => ?_) (fun h14 => ?_)
  · exact V_vret rfl dX2_letPass_39 (by decide) (by decide) ⟨rfl, by simp [kPass, *]⟩
  · refine V_ald0 dX2_letPass_17 ?_
    refine V_getI fd_X2_9 dX2_letPass_18 (by assumption) rfl ?_
    refine V_ald0 dX2_letPass_21 ?_
    refine V_getI fd_X2_26 dX2_letPass_22 (by assumption) rfl ?_
    refine V_isub dX2_letPass_25 ?_
    refine V_ald0 dX2_letPass_26 ?_
    refine V_getR fd_X2_15 dX2_letPass_27 (by assumption) (by assumption) rfl ?_
    refine V_iconst (v := 1) dX2_letPass_30 (by decide) ?_
    refine V_iald (j := 1) dX2_letPass_31 (by assumption) (by decide) (by decide) ?_
    refine V_icmp_lt (tgt := 39) dX2_letPass_32 (by decide) (fun h32 => ?_) (fun h32 => ?_)
    · exact V_vret rfl dX2_letPass_39 (by decide) (by decide) ⟨rfl, by simp [kPass, *]⟩
    · refine V_ald0 dX2_letPass_35 ?_
      refine V_cv0U lk_X2_69 cc_X2_closePulse dX2_letPass_36 (by assumption) (c_X2_closePulse hr) ft_X2_letPass_X2_closePulse rfl rfl (Nat.le_of_ble_eq_true rfl) ?_
      exact V_vret rfl dX2_letPass_39 (by decide) (by decide) ⟨rfl, by simp [kPass, *]⟩
theorem c_X2_lowerEnd {p k : Nat} (h : rPl n K G p) (hk : k < 8) : Con E l Y_X2_lowerEnd [.ref p, .int (nI k)] (x, n, K, G, M, L) (xR (some (.int (kLow M p k))) (x, n, K, G, M, L)) xF := by
  obtain ⟨h0, g1, h1, g2, h2, g3, h3, g4, h4, g5, h5⟩ := h
  refine Con.mk 0 mp_X2_lowerEnd rfl (ls := [some (.ref p), some (.int (nI k))]) rfl (Nat.le_of_ble_eq_true rfl) ?_
  refine V_ald0 dX2_lowerEnd_0 ?_
  refine V_getR fd_X2_19 dX2_lowerEnd_1 (by assumption) (by assumption) rfl ?_
  refine V_ild1 dX2_lowerEnd_4 ?_
  refine V_iald (j := k) dX2_lowerEnd_5 (by assumption) rfl hk ?_
  exact V_iret rfl dX2_lowerEnd_6 (by decide) (by decide) ⟨rfl, rfl⟩
theorem c_X2_upperEnd {p k : Nat} (h : rPl n K G p) (hk : k < 8) : Con E l Y_X2_upperEnd [.ref p, .int (nI k)] (x, n, K, G, M, L) (xR (some (.int (kUp M p k))) (x, n, K, G, M, L)) xF := by
  obtain ⟨h0, g1, h1, g2, h2, g3, h3, g4, h4, g5, h5⟩ := h
  refine Con.mk 0 mp_X2_upperEnd rfl (ls := [some (.ref p), some (.int (nI k))]) rfl (Nat.le_of_ble_eq_true rfl) ?_
  refine V_ild1 dX2_upperEnd_0 ?_
  refine V_bipush (v := 7) dX2_upperEnd_1 (by decide) ?_
  refine V_icmp_ge (tgt := 19) dX2_upperEnd_3 (by decide) (fun q3 => ?_) (fun q3 => ?_)
  · refine V_sipush (v := 5000) dX2_upperEnd_19 (by decide) ?_
    exact V_iret rfl dX2_upperEnd_22 (by decide) (by decide) ⟨by first | (have q4 : ¬ k < 7 := fun z => q3 (nI_lt (b := 7) z (by decide)); simp [kUp, q4]; done) | (have q4 : k < 7 := (nI_ltI (b := 7) (by omega) (by decide)).mp q3; simp [kUp, q4]), rfl⟩
  · refine V_ald0 dX2_upperEnd_6 ?_
    refine V_getR fd_X2_19 dX2_upperEnd_7 (by assumption) (by assumption) rfl ?_
    refine V_ild1 dX2_upperEnd_10 ?_
    refine V_iconst (v := 1) dX2_upperEnd_11 (by decide) ?_
    refine V_iadd dX2_upperEnd_12 ?_
    refine V_iald (j := k + 1) dX2_upperEnd_13 (by assumption) (nI_1 k) (by have q4 : k < 7 := (nI_ltI (b := 7) (by omega) (by decide)).mp q3; omega) ?_
    refine V_iconst (v := 1) dX2_upperEnd_14 (by decide) ?_
    refine V_isub dX2_upperEnd_15 ?_
    refine V_goto (tgt := 22) dX2_upperEnd_16 (by decide) ?_
    exact V_iret rfl dX2_upperEnd_22 (by decide) (by decide) ⟨by first | (have q4 : ¬ k < 7 := fun z => q3 (nI_lt (b := 7) z (by decide)); simp [kUp, q4]; done) | (have q4 : k < 7 := (nI_ltI (b := 7) (by omega) (by decide)).mp q3; simp [kUp, q4]), rfl⟩
theorem c_X2_wouldAscend {p k : Nat} (h : rPl n K G p) (hk : 1 ≤ k ∧ k < 8) (v : Int32) : Con E l Y_X2_wouldAscend [.ref p, .int (nI k), .int v] (x, n, K, G, M, L) (xR (some (.int (bI (M (p + 2) (k - 1) < v ∧ (k = 7 ∨ v < M (p + 2) (k + 1)))))) (x, n, K, G, M, L)) xF := by
  obtain ⟨h0, g1, h1, g2, h2, g3, h3, g4, h4, g5, h5⟩ := h
  have e7 : nI k = 7 ↔ k = 7 := nI_eq (b := 7) (by omega) (by decide)
  refine Con.mk 0 mp_X2_wouldAscend rfl (ls := [some (.ref p), some (.int (nI k)), some (.int v)]) rfl (Nat.le_of_ble_eq_true rfl) ?_
  refine V_ald0 dX2_wouldAscend_0 ?_
  refine V_getR fd_X2_19 dX2_wouldAscend_1 (by assumption) (by assumption) rfl ?_
  refine V_ild1 dX2_wouldAscend_4 ?_
  refine V_iconst (v := 1) dX2_wouldAscend_5 (by decide) ?_
  refine V_isub dX2_wouldAscend_6 ?_
  refine V_iald (j := k - 1) dX2_wouldAscend_7 (by assumption) (pkSub (b := 1) (by omega)) (by omega) ?_
  refine V_ild2 dX2_wouldAscend_8 ?_
  refine V_icmp_ge (tgt := 34) dX2_wouldAscend_9 (by decide) (fun q9 => ?_) (fun q9 => ?_)
  · refine V_iconst (v := 0) dX2_wouldAscend_34 (by decide) ?_
    exact V_zret rfl dX2_wouldAscend_35 (Or.inl rfl) (by decide) (by decide) ⟨by simp only [← e7]; clear e7; simp [bI, *], rfl⟩
  · refine V_ild1 dX2_wouldAscend_12 ?_
    refine V_bipush (v := 7) dX2_wouldAscend_13 (by decide) ?_
    refine V_icmp_eq (tgt := 30) dX2_wouldAscend_15 (by decide) (fun h15 => ?_) (fun h15 => ?_)
    · refine V_iconst (v := 1) dX2_wouldAscend_30 (by decide) ?_
      refine V_goto (tgt := 35) dX2_wouldAscend_31 (by decide) ?_
      exact V_zret rfl dX2_wouldAscend_35 (Or.inr rfl) (by decide) (by decide) ⟨by simp only [← e7]; clear e7; simp [bI, *], rfl⟩
    · refine V_ild2 dX2_wouldAscend_18 ?_
      refine V_ald0 dX2_wouldAscend_19 ?_
      refine V_getR fd_X2_19 dX2_wouldAscend_20 (by assumption) (by assumption) rfl ?_
      refine V_ild1 dX2_wouldAscend_23 ?_
      refine V_iconst (v := 1) dX2_wouldAscend_24 (by decide) ?_
      refine V_iadd dX2_wouldAscend_25 ?_
      refine V_iald (j := k + 1) dX2_wouldAscend_26 (by assumption) (nI_1 k) (by rw [e7] at h15; omega) ?_
      refine V_icmp_ge (tgt := 34) dX2_wouldAscend_27 (by decide) (fun h27 => ?_) (fun h27 => ?_)
      · refine V_iconst (v := 0) dX2_wouldAscend_34 (by decide) ?_
        exact V_zret rfl dX2_wouldAscend_35 (Or.inl rfl) (by decide) (by decide) ⟨by simp only [← e7]; clear e7; simp [bI, *], rfl⟩
      · refine V_iconst (v := 1) dX2_wouldAscend_30 (by decide) ?_
        refine V_goto (tgt := 35) dX2_wouldAscend_31 (by decide) ?_
        exact V_zret rfl dX2_wouldAscend_35 (Or.inr rfl) (by decide) (by decide) ⟨by simp only [← e7]; clear e7; simp [bI, *], rfl⟩
theorem c_X2_emptyBins {p : Nat} (h : rPl n K G p) : Con E l Y_X2_emptyBins [.ref p] (x, n, K, G, M, L) (xR none (x, n, K, G, kEmp M p, L)) xF := by
  obtain ⟨h0, g1, h1, g2, h2, g3, h3, g4, h4, g5, h5⟩ := h
  refine Con.mk 0 mp_X2_emptyBins rfl (ls := [some (.ref p)]) rfl (Nat.le_of_ble_eq_true rfl) ?_
  refine V_ald0 dX2_emptyBins_0 ?_
  refine V_getR fd_X2_41 dX2_emptyBins_1 (by assumption) (by assumption) rfl ?_
  refine V_cs1U lk_X2_78 cc_X5_clearRow dX2_emptyBins_4 (c_X5_clearRow h3) ft_X2_emptyBins_X5_clearRow rfl rfl (Nat.le_of_ble_eq_true rfl) ?_
  refine V_ald0 dX2_emptyBins_7 ?_
  refine V_getR fd_X2_44 dX2_emptyBins_8 (by assumption) (by assumption) rfl ?_
  refine V_cs1U lk_X2_78 cc_X5_clearRow dX2_emptyBins_11 (c_X5_clearRow h4) ft_X2_emptyBins_X5_clearRow rfl rfl (Nat.le_of_ble_eq_true rfl) ?_
  refine V_ald0 dX2_emptyBins_14 ?_
  refine V_getR fd_X2_47 dX2_emptyBins_15 (by assumption) (by assumption) rfl ?_
  refine V_cs1U lk_X2_78 cc_X5_clearRow dX2_emptyBins_18 (c_X5_clearRow h5) ft_X2_emptyBins_X5_clearRow rfl rfl (Nat.le_of_ble_eq_true rfl) ?_
  exact V_vret rfl dX2_emptyBins_21 (by decide) (by decide) ⟨rfl, rfl⟩
theorem c_X2_endByLaw {p k : Nat} (h : rPl n K G p) (hk : k < 8) (w : Int32) : Con E l Y_X2_endByLaw [.ref p, .int (nI k), .int w] (x, n, K, G, M, L) (xR (some (.int (kEnd M p k w))) (x, n, K, G, M, L)) xF := by
  have hr := h
  obtain ⟨h0, g1, h1, g2, h2, g3, h3, g4, h4, g5, h5⟩ := h
  refine Con.mk 0 mp_X2_endByLaw rfl (ls := [some (.ref p), some (.int (nI k)), some (.int w)]) rfl (Nat.le_of_ble_eq_true rfl) ?_
  refine V_ild2 dX2_endByLaw_0 ?_
  refine V_topi (fun y1 e1 => ?_)
  by_cases s1_0 : y1 = 0
  · subst s1_0
    refine V_lookup (tgt := 28) (off := 27) dX2_endByLaw_1 (by decide) (by decide) (by decide) ?_
    refine V_ald0 dX2_endByLaw_28 ?_
    refine V_ild1 dX2_endByLaw_29 ?_
    refine V_cv1R lk_X2_92 cc_X2_lowerEnd dX2_endByLaw_30 (by assumption) (c_X2_lowerEnd hr hk) ft_X2_endByLaw_X2_lowerEnd rfl rfl (Nat.le_of_ble_eq_true rfl) ?_
    exact V_iret rfl dX2_endByLaw_33 (by decide) (by decide) ⟨by rw [← e1]; rfl, rfl⟩
  by_cases s1_1 : y1 = 1
  · subst s1_1
    refine V_lookup (tgt := 34) (off := 33) dX2_endByLaw_1 (by decide) (by decide) (by decide) ?_
    refine V_ald0 dX2_endByLaw_34 ?_
    refine V_ild1 dX2_endByLaw_35 ?_
    refine V_cv1R lk_X2_92 cc_X2_lowerEnd dX2_endByLaw_36 (by assumption) (c_X2_lowerEnd hr hk) ft_X2_endByLaw_X2_lowerEnd rfl rfl (Nat.le_of_ble_eq_true rfl) ?_
    refine V_ald0 dX2_endByLaw_39 ?_
    refine V_ild1 dX2_endByLaw_40 ?_
    refine V_cv1R lk_X2_95 cc_X2_upperEnd dX2_endByLaw_41 (by assumption) (c_X2_upperEnd hr hk) ft_X2_endByLaw_X2_upperEnd rfl rfl (Nat.le_of_ble_eq_true rfl) ?_
    refine V_iadd dX2_endByLaw_44 ?_
    refine V_iconst (v := 2) dX2_endByLaw_45 (by decide) ?_
    refine V_idiv dX2_endByLaw_46 (by decide) ?_
    exact V_iret rfl dX2_endByLaw_47 (by decide) (by decide) ⟨by rw [← e1]; rfl, rfl⟩
  refine V_lookup (tgt := 48) (off := 47) dX2_endByLaw_1 (by decide) (by have q0 : y1.toInt ≠ 0 := xne s1_0; have q1 : y1.toInt ≠ 1 := xne s1_1; simp [Op.lookupswitch.offset, q0, Ne.symm q0, q1, Ne.symm q1]) (by decide) ?_
  refine V_ald0 dX2_endByLaw_48 ?_
  refine V_ild1 dX2_endByLaw_49 ?_
  refine V_cv1R lk_X2_95 cc_X2_upperEnd dX2_endByLaw_50 (by assumption) (c_X2_upperEnd hr hk) ft_X2_endByLaw_X2_upperEnd rfl rfl (Nat.le_of_ble_eq_true rfl) ?_
  exact V_iret rfl dX2_endByLaw_53 (by decide) (by decide) ⟨by subst e1; simp [kEnd, *], rfl⟩
theorem c_X2_reckonedRain {p : Nat} (h : rPl n K G p) (w : Int32) : Con E l Y_X2_reckonedRain [.ref p, .int w] (x, n, K, G, M, L) (xR (some (.long (kRain M p w 8))) (x, n, K, G, M, L)) xF := by
  have hr := h
  obtain ⟨h0, g1, h1, g2, h2, g3, h3, g4, h4, g5, h5⟩ := h
  refine Con.mk 3 mp_X2_reckonedRain rfl (ls := [some (.ref p), some (.int w), none, none, none]) rfl (Nat.le_of_ble_eq_true rfl) ?_
  have loop : ∀ (d k : Nat), k + d = 8 → V E l Y_X2_reckonedRain (xQm E Y_X2_reckonedRain (xR (some (.long (kRain M p w 8))) (x, n, K, G, M, L)) xF) (x, n, K, G, M, L) (0, 0) 5 [some (.ref p), some (.int w), some (.long (kRain M p w k)), none, some (.int (nI k))] [] := by
    intro d
    induction d with
    | zero =>
      intro k hk
      have e : k = 8 := by omega
      subst e
      refine V_ild4 dX2_reckonedRain_5 ?_
      refine V_bipush (v := 7) dX2_reckonedRain_7 (by decide) ?_
      refine V_icmp_gt (tgt := 43) dX2_reckonedRain_9 (by decide) (fun h9 => ?_) (fun h9 => ?_)
      · refine V_lld2 dX2_reckonedRain_43 ?_
        exact V_lret rfl dX2_reckonedRain_44 (by decide) (by decide) ⟨rfl, rfl⟩
      · exact absurd (by decide) h9
    | succ d ih =>
      intro k hk
      refine V_ild4 dX2_reckonedRain_5 ?_
      refine V_bipush (v := 7) dX2_reckonedRain_7 (by decide) ?_
      refine V_icmp_gt (tgt := 43) dX2_reckonedRain_9 (by decide) (fun h9 => ?_) (fun h9 => ?_)
      · exact absurd h9 (nI_nlt (a := 7) (by omega) (by decide))
      · refine V_lld2 dX2_reckonedRain_12 ?_
        refine V_ald0 dX2_reckonedRain_13 ?_
        refine V_getR fd_X2_41 dX2_reckonedRain_14 (by assumption) (by assumption) rfl ?_
        refine V_ild4 dX2_reckonedRain_17 ?_
        refine V_iald (j := k) dX2_reckonedRain_19 (by assumption) rfl (by omega) ?_
        refine V_i2l dX2_reckonedRain_20 ?_
        refine V_ald0 dX2_reckonedRain_21 ?_
        refine V_ild4 dX2_reckonedRain_22 ?_
        refine V_ild1 dX2_reckonedRain_24 ?_
        refine V_cv2R lk_X2_82 cc_X2_endByLaw dX2_reckonedRain_25 (by assumption) (c_X2_endByLaw hr (by omega) w) ft_X2_reckonedRain_X2_endByLaw rfl rfl (Nat.le_of_ble_eq_true rfl) ?_
        refine V_cs1R lk_X2_85 cc_X5_wholeRoot dX2_reckonedRain_28 (c_X5_wholeRoot _) ft_X2_reckonedRain_X5_wholeRoot rfl rfl (Nat.le_of_ble_eq_true rfl) ?_
        refine V_cs1R lk_X2_88 cc_X5_cube dX2_reckonedRain_31 (c_X5_cube _) ft_X2_reckonedRain_X5_cube rfl rfl (Nat.le_of_ble_eq_true rfl) ?_
        refine V_lmul dX2_reckonedRain_34 ?_
        refine V_ladd dX2_reckonedRain_35 ?_
        refine V_lst2 dX2_reckonedRain_36 rfl (by decide) ?_
        refine V_inc4 dX2_reckonedRain_37 rfl (nI_1 k) ?_
        refine V_goto (tgt := 5) dX2_reckonedRain_40 (by decide) ?_
        exact ih (k + 1) (by omega)
  refine V_lconst (v := 0) dX2_reckonedRain_0 (by decide) ?_
  refine V_lst2 dX2_reckonedRain_1 rfl (by decide) ?_
  refine V_iconst (v := 0) dX2_reckonedRain_2 (by decide) ?_
  refine V_ist4 dX2_reckonedRain_3 rfl (by decide) ?_
  exact loop 8 0 (by omega)
theorem c_X2_copySetupFrom {a b : Nat} (ha : rPl n K G a) (hb : rPl n K G b) (hab : a + 5 < b ∨ b + 5 < a) : Con E l Y_X2_copySetupFrom [.ref b, .ref a] (x, n, K, G, M, L) (xR none (x, n, K, G, kSetCp M a b, L)) xF := by
  obtain ⟨h0, g1, h1, g2, h2, g3, h3, g4, h4, g5, h5⟩ := ha
  obtain ⟨k0, f1, k1, f2, k2, f3, k3, f4, k4, f5, k5⟩ := hb
  refine Con.mk 0 mp_X2_copySetupFrom rfl (ls := [some (.ref b), some (.ref a)]) rfl (Nat.le_of_ble_eq_true rfl) ?_
  refine V_ald1 dX2_copySetupFrom_0 ?_
  refine V_getR fd_X2_15 dX2_copySetupFrom_1 (by assumption) (by assumption) rfl ?_
  refine V_ald0 dX2_copySetupFrom_4 ?_
  refine V_getR fd_X2_15 dX2_copySetupFrom_5 (by assumption) (by assumption) rfl ?_
  refine V_cs2U lk_X2_98 cc_X5_copyRow dX2_copySetupFrom_8 (c_X5_copyRow h1 k1 (by omega) (Nat.le_refl 5)) ft_X2_copySetupFrom_X5_copyRow rfl rfl (Nat.le_of_ble_eq_true rfl) ?_
  refine V_ald1 dX2_copySetupFrom_11 ?_
  refine V_getR fd_X2_19 dX2_copySetupFrom_12 (by assumption) (by assumption) rfl ?_
  refine V_ald0 dX2_copySetupFrom_15 ?_
  refine V_getR fd_X2_19 dX2_copySetupFrom_16 (by assumption) (by assumption) rfl ?_
  refine V_cs2U lk_X2_98 cc_X5_copyRow dX2_copySetupFrom_19 (c_X5_copyRow h2 k2 (by omega) (Nat.le_refl 8)) ft_X2_copySetupFrom_X5_copyRow rfl rfl (Nat.le_of_ble_eq_true rfl) ?_
  exact V_vret rfl dX2_copySetupFrom_22 (by decide) (by decide) ⟨rfl, rfl⟩
theorem xcp_k {M : xMem} {a b n k i : Nat} (h : k ≠ b) : xcp M a b n k i = M k i := by simp [xcp, h]
theorem c_X2_copyFrom {a b : Nat} (ha : rPl n K G a) (hb : rPl n K G b) (hab : a + 5 < b ∨ b + 5 < a) (hi : iPl M a) : Con E l Y_X2_copyFrom [.ref b, .ref a] (x, n, K, G, M, L) (xR none (x, n, K, G, kPlCp M a b, L)) xF := by
  have hra := ha
  have hrb := hb
  obtain ⟨h0, g1, h1, g2, h2, g3, h3, g4, h4, g5, h5⟩ := ha
  obtain ⟨k0, f1, k1, f2, k2, f3, k3, f4, k4, f5, k5⟩ := hb
  obtain ⟨z3, z6, z8⟩ := hi
  have hne : a ≠ b := by omega
  have e : ∀ i, kSetCp M a b a i = M a i := fun i => by unfold kSetCp; rw [xcp_k (by omega), xcp_k (by omega)]
  refine Con.mk 0 mp_X2_copyFrom rfl (ls := [some (.ref b), some (.ref a)]) rfl (Nat.le_of_ble_eq_true rfl) ?_
  refine V_ald0 dX2_copyFrom_0 ?_
  refine V_ald1 dX2_copyFrom_1 ?_
  refine V_cv1U lk_X2_102 cc_X2_copySetupFrom dX2_copyFrom_2 (by assumption) (c_X2_copySetupFrom hra hrb hab) ft_X2_copyFrom_X2_copySetupFrom rfl rfl (Nat.le_of_ble_eq_true rfl) ?_
  refine V_ald0 dX2_copyFrom_5 ?_
  refine V_ald1 dX2_copyFrom_6 ?_
  refine V_getI fd_X2_9 dX2_copyFrom_7 (by assumption) rfl ?_
  refine V_putI fw_X2_9 dX2_copyFrom_10 (by assumption) rfl ?_
  refine V_ald0 dX2_copyFrom_13 ?_
  refine V_ald1 dX2_copyFrom_14 ?_
  refine V_getI fd_X2_22 dX2_copyFrom_15 (by assumption) rfl ?_
  refine V_putZ fw_X2_22 dX2_copyFrom_18 (by assumption) (by simp only [xup_k hne, e]; exact z3) rfl ?_
  refine V_ald0 dX2_copyFrom_21 ?_
  refine V_ald1 dX2_copyFrom_22 ?_
  refine V_getI fd_X2_26 dX2_copyFrom_23 (by assumption) rfl ?_
  refine V_putI fw_X2_26 dX2_copyFrom_26 (by assumption) rfl ?_
  refine V_ald0 dX2_copyFrom_29 ?_
  refine V_ald1 dX2_copyFrom_30 ?_
  refine V_getI fd_X2_29 dX2_copyFrom_31 (by assumption) rfl ?_
  refine V_putI fw_X2_29 dX2_copyFrom_34 (by assumption) rfl ?_
  refine V_ald0 dX2_copyFrom_37 ?_
  refine V_ald1 dX2_copyFrom_38 ?_
  refine V_getI fd_X2_32 dX2_copyFrom_39 (by assumption) rfl ?_
  refine V_putZ fw_X2_32 dX2_copyFrom_42 (by assumption) (by simp only [xup_k hne, e]; exact z6) rfl ?_
  refine V_ald0 dX2_copyFrom_45 ?_
  refine V_ald1 dX2_copyFrom_46 ?_
  refine V_getI fd_X2_35 dX2_copyFrom_47 (by assumption) rfl ?_
  refine V_putI fw_X2_35 dX2_copyFrom_50 (by assumption) rfl ?_
  refine V_ald0 dX2_copyFrom_53 ?_
  refine V_ald1 dX2_copyFrom_54 ?_
  refine V_getI fd_X2_38 dX2_copyFrom_55 (by assumption) rfl ?_
  refine V_putZ fw_X2_38 dX2_copyFrom_58 (by assumption) (by simp only [xup_k hne, e]; exact z8) rfl ?_
  refine V_ald1 dX2_copyFrom_61 ?_
  refine V_getR fd_X2_41 dX2_copyFrom_62 (by assumption) (by assumption) rfl ?_
  refine V_ald0 dX2_copyFrom_65 ?_
  refine V_getR fd_X2_41 dX2_copyFrom_66 (by assumption) (by assumption) rfl ?_
  refine V_cs2U lk_X2_98 cc_X5_copyRow dX2_copyFrom_69 (c_X5_copyRow h3 k3 (by omega) (Nat.le_refl 8)) ft_X2_copyFrom_X5_copyRow rfl rfl (Nat.le_of_ble_eq_true rfl) ?_
  refine V_ald1 dX2_copyFrom_72 ?_
  refine V_getR fd_X2_44 dX2_copyFrom_73 (by assumption) (by assumption) rfl ?_
  refine V_ald0 dX2_copyFrom_76 ?_
  refine V_getR fd_X2_44 dX2_copyFrom_77 (by assumption) (by assumption) rfl ?_
  refine V_cs2U lk_X2_98 cc_X5_copyRow dX2_copyFrom_80 (c_X5_copyRow h4 k4 (by omega) (Nat.le_refl 8)) ft_X2_copyFrom_X5_copyRow rfl rfl (Nat.le_of_ble_eq_true rfl) ?_
  refine V_ald1 dX2_copyFrom_83 ?_
  refine V_getR fd_X2_47 dX2_copyFrom_84 (by assumption) (by assumption) rfl ?_
  refine V_ald0 dX2_copyFrom_87 ?_
  refine V_getR fd_X2_47 dX2_copyFrom_88 (by assumption) (by assumption) rfl ?_
  refine V_cs2U lk_X2_98 cc_X5_copyRow dX2_copyFrom_91 (c_X5_copyRow h5 k5 (by omega) (Nat.le_refl 8)) ft_X2_copyFrom_X5_copyRow rfl rfl (Nat.le_of_ble_eq_true rfl) ?_
  exact V_vret rfl dX2_copyFrom_94 (by decide) (by decide) ⟨rfl, by unfold kPlCp; simp only [xup_k hne, e]⟩
end C22

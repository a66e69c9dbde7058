/-! ===== the true rain of what is played ===== -/
theorem kSumL_head (g : Nat → Int64) : ∀ n, kSumL g (n + 1) = g 0 + kSumL (fun j => g (j + 1)) n
  | 0 => by simp [kSumL]
  | n + 1 => by
    rw [kSumL, kSumL_head g n, kSumL, Int64.add_assoc]
theorem kSumL_rev (g : Nat → Int64) : ∀ n, kSumL (fun j => g (n - 1 - j)) n = kSumL g n
  | 0 => rfl
  | n + 1 => by
    rw [kSumL_head (fun j => g (n + 1 - 1 - j)) n, kSumL, ← kSumL_rev g n, Int64.add_comm, show n + 1 - 1 - 0 = n by omega]
    congr 1
    exact kSumL_congr n fun i hi => by rw [show n + 1 - 1 - (i + 1) = n - 1 - i by omega]
section P66
variable {R Q : xRow} {T B : Nat}
theorem rDr_190 (hw : WFr Q T B) {t z : Int32} : rDr Q t z 190 = Q 190 + z * z * z := by
  obtain ⟨l60, e47⟩ := hw.len
  obtain ⟨l40, e108⟩ := hw.rlen
  have f4 : rDrF Q t z < 4 := rFt_lt
  show rDrM Q (xLf Q) (xLr Q) t z 190 = _
  rw [rDrM_eq]
  unfold rEn
  rw [rRc_out (by omega) l40, rTr_out (by omega) l60, upR_s, upR_n (by omega), rFl_o (by omega), rGo_o (by omega)]
theorem rPlay_190 (hw : WFr R T B) {w d : Int32} (hw9 : nb w 0 20) (hd9 : nb d 1 9) (hT : T ≤ 250000) : ∀ k, k ≤ xLr R → (rPlay R w d k 190).toInt64 = kSumL (fun j => kCube (R (110 + 2 * j))) k
  | 0, _ => by
    have e : rPlay R w d 0 190 = 0 := by
      show rSetup R w d 190 = 0
      rw [rSetup_o (by omega) (by omega)]
      unfold rCln
      rw [if_neg (by omega), if_neg (by omega), if_neg (by omega), if_neg (by omega), if_neg (by omega), if_neg (by omega), if_neg (by omega), if_neg (by omega), if_neg (by omega), if_neg (by omega), if_neg (by omega)]
    rw [e]; rfl
  | k + 1, hk => by
    have ih := rPlay_190 hw hw9 hd9 hT k (by omega)
    have wq := hw.play hw9 hd9 hT k (by omega)
    have l40 := hw.rlen.1
    obtain ⟨-, z, z1, z2, z3⟩ := hw.rec (k := k) (by omega)
    obtain ⟨r, -, r2, r3⟩ := wq.2.2.2.2.2.2.2.2.2.2.2.2.2
    have h1 : z * z ≤ 60 * 60 := Nat.mul_le_mul z2 z2
    have h2 : z * z * z ≤ 60 * 60 * 60 := Nat.mul_le_mul h1 z2
    rw [rPlay, rDr_190 wq, kSumL, ← ih, z3, cube_nI z2, r3, pk_mul, pk_mul, nI_add, nI_l (by omega), nI_l (by omega), nI_l (by omega), lN_add]
theorem rDue_190 (hw : WFr R T B) {w d : Int32} (hw9 : nb w 0 20) (hd9 : nb d 1 9) (hT : T ≤ 250000) : (rPlay R w d (xLr R) 190).toInt64 = rDue R (xLr R) := by
  rw [rPlay_190 hw hw9 hd9 hT _ (Nat.le_refl _)]
  unfold rDue
  exact (kSumL_rev (fun j => kCube (R (110 + 2 * j))) (xLr R)).symm
end P66

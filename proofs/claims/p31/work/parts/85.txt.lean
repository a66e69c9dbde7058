/-! ===== the law: the text that is told ===== -/
/-- parts read one after the other from place a on end just where the text ends -/
def RV (g : Nat → Int32) (len : Nat) : Nat → Nat → Prop
  | 0, a => a = len
  | d + 1, a => a + kPaL g a ≤ len ∧ kErrP g a = -9 ∧ RV g len d (a + kPaL g a)
theorem kErrN_congr {f g : Nat → Int32} {lo hi : Int32} {a : Nat} : ∀ r i (fi : Int32), (∀ j, a + i ≤ j → j < a + i + r → f j = g j) → kErrGo f a lo hi r i fi = kErrGo g a lo hi r i fi
  | 0, i, fi, _ => rfl
  | r + 1, i, fi, h => by
    unfold kErrGo
    rw [h (a + i) (by omega) (by omega), kErrN_congr r (i + 1) _ (fun j h1 h2 => h j (by omega) (by omega))]
theorem kPaL_congr {f g : Nat → Int32} {a : Nat} (h : f a = g a) : kPaL f a = kPaL g a := by unfold kPaL; rw [h]
theorem kErrP_congr {f g : Nat → Int32} {a : Nat} (h : ∀ j, a ≤ j → j < a + kPaL f a → f j = g j) : kErrP f a = kErrP g a := by
  have h0 : f a = g a := h a (Nat.le_refl a) (by unfold kPaL; split <;> (try split) <;> omega)
  unfold kErrP
  rw [← h0]
  unfold kPaL at h
  by_cases c1 : f a = 100
  · rw [if_pos c1] at h
    rw [if_pos c1, if_pos c1]
    unfold kErrD kErrN
    rw [kErrN_congr 2 0 0 (fun j h1 h2 => h j (by omega) (by omega)), kErrN_congr (a := a + 1 + 2) 2 0 0 (fun j h1 h2 => h j (by omega) (by omega))]
  · rw [if_neg c1] at h
    rw [if_neg c1, if_neg c1]
    by_cases c2 : f a = 103
    · rw [if_pos c2] at h
      rw [if_pos c2, if_pos c2]
      exact kErrN_congr 1 0 0 (fun j h1 h2 => h j (by omega) (by omega))
    · rw [if_neg c2] at h
      rw [if_neg c2, if_neg c2]
      have k2 : ∀ lo hi : Int32, kErrN f (a + 1) 2 lo hi = kErrN g (a + 1) 2 lo hi := fun lo hi => kErrN_congr 2 0 0 (fun j h1 h2 => h j (by omega) (by omega))
      rw [k2, k2, k2]
theorem RV.ext {f g : Nat → Int32} {len : Nat} (e : ∀ j, j < len → f j = g j) (hp : kErrP g len = -9) : ∀ d a, RV f len d a → RV g (len + kPaL g len) (d + 1) a
  | 0, a, h => by
    have h : a = len := h
    subst h
    exact ⟨Nat.le_refl _, hp, rfl⟩
  | d + 1, a, h => by
    obtain ⟨h1, h2, h3⟩ := h
    have l2 : 2 ≤ kPaL f a := by unfold kPaL; split <;> (try split) <;> omega
    have ea : kPaL f a = kPaL g a := kPaL_congr (e a (by omega))
    have ep : kErrP f a = kErrP g a := kErrP_congr fun j _ j2 => e j (by omega)
    rw [ea] at h1 h3
    rw [ep] at h2
    exact ⟨by omega, h2, RV.ext e hp d _ h3⟩
theorem RV.ok {tc : Nat → Int32} {len : Nat} : ∀ d D a, d ≤ D → RV tc len d a → kFiE (kSg tc len) len D a = -9
  | 0, D, a, _, h => by
    have h : a = len := h
    subst h
    cases D with
    | zero => rfl
    | succ D => unfold kFiE; rw [if_neg (Nat.lt_irrefl a)]
  | d + 1, 0, a, hD, _ => absurd hD (by omega)
  | d + 1, D + 1, a, hD, h => by
    obtain ⟨h1, h2, h3⟩ := h
    have l2 : 2 ≤ kPaL tc a := by unfold kPaL; split <;> (try split) <;> omega
    have e : ∀ j, j < len → tc j = kSg tc len j := fun j hj => by unfold kSg; rw [if_pos hj]
    have ea : kPaL tc a = kPaL (kSg tc len) a := kPaL_congr (e a (by omega))
    have ep : kErrP tc a = kErrP (kSg tc len) a := kErrP_congr fun j _ j2 => e j (by omega)
    unfold kFiE
    rw [if_pos (show a < len by omega), ← ep, if_pos h2, ← ea]
    exact RV.ok d D _ (by omega) h3
theorem kErrN_two {g : Nat → Int32} {a k lo hi : Nat} (h1 : g a = nI (48 + k / 10)) (h2 : g (a + 1) = nI (48 + k % 10)) (l : lo ≤ k) (h : k ≤ hi) (h9 : hi ≤ 99) : kErrN g a 2 (nI lo) (nI hi) = -9 := by
  have d1 : g (a + 0) - 48 = nI (k / 10) := by
    rw [Nat.add_zero, h1, show nI (48 + k / 10) - 48 = nI (48 + k / 10 - 48) from pkSub (b := 48) (by omega)]
    congr 1; omega
  have d2 : g (a + (0 + 1)) - 48 = nI (k % 10) := by
    rw [h2, show nI (48 + k % 10) - 48 = nI (48 + k % 10 - 48) from pkSub (b := 48) (by omega)]
    congr 1; omega
  have n9 : ∀ z : Nat, z ≤ 9 → ¬ (nI z < 0 ∨ (9 : Int32) < nI z) := fun z hz q => q.elim (nI_pos (by omega)) (fun q => nI_nlt (a := 9) hz (by decide) q)
  have e1 : (0 : Int32) + nI (k / 10) * 10 = nI (k / 10 * 10) := by rw [Int32.zero_add]; exact pk_mul _ 10
  have e2 : nI (k / 10 * 10) + nI (k % 10) * 1 = nI k := by rw [Int32.mul_one, nI_add]; congr 1; omega
  have e3 : nI (k / 10 * 10) + 10 - 1 = nI (k / 10 * 10 + 9) := by rw [show nI (k / 10 * 10) + 10 = nI (k / 10 * 10 + 10) from nI_add _ 10]; exact pkSub (b := 1) (by omega)
  have e4 : nI k + 1 - 1 = nI k := by rw [nI_1]; exact pkSub (b := 1) (by omega)
  unfold kErrN
  rw [kErrGo, d1, if_neg (n9 _ (by omega)), if_neg (show ¬ (1 : Nat) = 0 by decide), e1, e3, if_neg (fun q => q.elim (nI_nlt (a := hi) (by omega) (by omega)) (nI_nlt (b := lo) (by omega) (by omega)))]
  rw [kErrGo, d2, if_neg (n9 _ (by omega)), if_pos rfl, e2, e4, if_neg (fun q => q.elim (nI_nlt (a := hi) (by omega) (by omega)) (nI_nlt (b := lo) (by omega) (by omega)))]
  rfl
def sTwo (S : xSp) (k : Nat) : xSp := sText (sText S (nI (48 + k / 10))) (nI (48 + k % 10))
/-- one part, drawn as v -/
def tPart (S : xSp) (v : Nat) : xSp :=
  if v % 9 = 0 then sTwo (sText S 116) (v / 9 % 41) else if v % 9 = 1 then sTwo (sText S 119) (v / 9 % 21) else if v % 9 = 2 then sTwo (sText S 112) (1 + v / 9 % 99) else sTwo (sTwo (sText S 100) (v / 9 % 7)) (1 + v / 63 % 60)
def vT (x : Int32) (i : Nat) : Nat := (x >>> (nI (i % 16) &&& 31)).toBitVec.toNat % 2 ^ 15 + 37 * i
def tAll (S : xSp) (x : Int32) : Nat → xSp
  | 0 => sText (sWipe S) 80
  | i + 1 => tPart (tAll S x i) (vT x i)
section P85
variable {S : xSp} {x : Int32} {v k : Nat}
theorem sTwo_r : (sTwo S k).2.2 = S.2.2 ∧ (sTwo S k).1 = S.1 + 2 ∧ (∀ j, j < S.1 → (sTwo S k).2.1 j = S.2.1 j) ∧ (sTwo S k).2.1 S.1 = nI (48 + k / 10) ∧ (sTwo S k).2.1 (S.1 + 1) = nI (48 + k % 10) := by
  refine ⟨rfl, rfl, fun j hj => ?_, ?_, ?_⟩
  · show (if j = S.1 + 1 then _ else if j = S.1 then _ else S.2.1 j) = _
    rw [if_neg (by omega), if_neg (by omega)]
  · show (if S.1 = S.1 + 1 then _ else if S.1 = S.1 then nI (48 + k / 10) else S.2.1 S.1) = _
    rw [if_neg (by omega), if_pos rfl]
  · show (if S.1 + 1 = S.1 + 1 then nI (48 + k % 10) else _) = _
    rw [if_pos rfl]
theorem sText_r {c : Int32} : (sText S c).2.2 = S.2.2 ∧ (sText S c).1 = S.1 + 1 ∧ (∀ j, j < S.1 → (sText S c).2.1 j = S.2.1 j) ∧ (sText S c).2.1 S.1 = c := by
  refine ⟨rfl, rfl, fun j hj => ?_, ?_⟩
  · show (if j = S.1 then _ else S.2.1 j) = _
    rw [if_neg (by omega)]
  · show (if S.1 = S.1 then c else _) = _
    rw [if_pos rfl]
/-- a letter and two digits behind it -/
theorem three {c : Int32} : (sTwo (sText S c) k).2.2 = S.2.2 ∧ (sTwo (sText S c) k).1 = S.1 + 3 ∧ (∀ j, j < S.1 → (sTwo (sText S c) k).2.1 j = S.2.1 j) ∧ (sTwo (sText S c) k).2.1 S.1 = c ∧ (sTwo (sText S c) k).2.1 (S.1 + 1) = nI (48 + k / 10) ∧ (sTwo (sText S c) k).2.1 (S.1 + 1 + 1) = nI (48 + k % 10) := by
  obtain ⟨a1, a2, a3, a4⟩ := sText_r (S := S) (c := c)
  obtain ⟨b1, b2, b3, b4, b5⟩ := sTwo_r (S := sText S c) (k := k)
  rw [a2] at b2 b3 b4 b5
  exact ⟨b1.trans a1, by omega, fun j hj => (b3 j (by omega)).trans (a3 j hj), (b3 _ (by omega)).trans a4, b4, b5⟩
theorem tPart_r : (tPart S v).2.2 = S.2.2 ∧ S.1 + 3 ≤ (tPart S v).1 ∧ (tPart S v).1 ≤ S.1 + 5 ∧ (∀ j, j < S.1 → (tPart S v).2.1 j = S.2.1 j) ∧ kErrP (tPart S v).2.1 S.1 = -9 ∧ (tPart S v).1 = S.1 + kPaL (tPart S v).2.1 S.1 := by
  unfold tPart
  by_cases c0 : v % 9 = 0
  · rw [if_pos c0]
    obtain ⟨a1, a2, a3, a4, a5, a6⟩ := three (S := S) (c := 116) (k := v / 9 % 41)
    refine ⟨a1, by omega, by omega, a3, ?_, ?_⟩
    · unfold kErrP
      rw [a4, if_neg (by decide), if_neg (by decide), if_neg (by decide), if_pos rfl]
      exact kErrN_two (lo := 0) (hi := 40) a5 a6 (Nat.zero_le _) (by omega) (by omega)
    · unfold kPaL
      rw [a4, if_neg (by decide), if_neg (by decide)]; exact a2
  · rw [if_neg c0]
    by_cases c1 : v % 9 = 1
    · rw [if_pos c1]
      obtain ⟨a1, a2, a3, a4, a5, a6⟩ := three (S := S) (c := 119) (k := v / 9 % 21)
      refine ⟨a1, by omega, by omega, a3, ?_, ?_⟩
      · unfold kErrP
        rw [a4, if_neg (by decide), if_neg (by decide), if_neg (by decide), if_neg (by decide), if_pos rfl]
        exact kErrN_two (lo := 0) (hi := 20) a5 a6 (Nat.zero_le _) (by omega) (by omega)
      · unfold kPaL
        rw [a4, if_neg (by decide), if_neg (by decide)]; exact a2
    · rw [if_neg c1]
      by_cases c2 : v % 9 = 2
      · rw [if_pos c2]
        obtain ⟨a1, a2, a3, a4, a5, a6⟩ := three (S := S) (c := 112) (k := 1 + v / 9 % 99)
        refine ⟨a1, by omega, by omega, a3, ?_, ?_⟩
        · unfold kErrP
          rw [a4, if_neg (by decide), if_neg (by decide), if_pos rfl]
          exact kErrN_two (lo := 1) (hi := 99) a5 a6 (by omega) (by omega) (by omega)
        · unfold kPaL
          rw [a4, if_neg (by decide), if_neg (by decide)]; exact a2
      · rw [if_neg c2]
        obtain ⟨a1, a2, a3, a4, a5, a6⟩ := three (S := S) (c := 100) (k := v / 9 % 7)
        obtain ⟨b1, b2, b3, b4, b5⟩ := sTwo_r (S := sTwo (sText S 100) (v / 9 % 7)) (k := 1 + v / 63 % 60)
        rw [a2] at b2 b3 b4 b5
        have e0 := (b3 S.1 (by omega)).trans a4
        refine ⟨b1.trans a1, by omega, by omega, fun j hj => (b3 j (by omega)).trans (a3 j hj), ?_, ?_⟩
        · unfold kErrP
          rw [e0, if_pos rfl]
          unfold kErrD
          rw [show (0 : Int32) = nI 0 from rfl, show (99 : Int32) = nI 99 from rfl, kErrN_two (lo := 0) (hi := 99) (k := v / 9 % 7) ((b3 _ (by omega)).trans a5) ((b3 _ (by omega)).trans a6) (Nat.zero_le _) (by omega) (by omega), if_pos rfl]
          exact kErrN_two (lo := 1) (hi := 60) (k := 1 + v / 63 % 60) (by rw [show S.1 + 1 + 2 = S.1 + 3 by omega]; exact b4) (by rw [show S.1 + 1 + 2 + 1 = S.1 + 3 + 1 by omega]; exact b5) (by omega) (by omega) (by omega)
        · unfold kPaL
          rw [e0, if_pos rfl]; omega
theorem tAll_r : ∀ i, (tAll S x i).2.2 = S.2.2 ∧ 1 + 3 * i ≤ (tAll S x i).1 ∧ (tAll S x i).1 ≤ 1 + 5 * i ∧ (tAll S x i).2.1 0 = 80 ∧ RV (tAll S x i).2.1 (tAll S x i).1 i 1
  | 0 => by
    obtain ⟨a1, a2, a3, a4⟩ := sText_r (S := sWipe S) (c := 80)
    exact ⟨a1, Nat.le_refl _, Nat.le_refl _, a4, rfl⟩
  | i + 1 => by
    obtain ⟨h1, h2, h3, h4, h5⟩ := tAll_r i
    obtain ⟨a1, a2, a3, a4, a5, a6⟩ := tPart_r (S := tAll S x i) (v := vT x i)
    refine ⟨a1.trans h1, ?_, ?_, ?_, ?_⟩
    · show _ ≤ (tPart (tAll S x i) (vT x i)).1; omega
    · show (tPart (tAll S x i) (vT x i)).1 ≤ _; omega
    · show (tPart (tAll S x i) (vT x i)).2.1 0 = 80
      rw [a4 0 (by omega)]; exact h4
    · show RV (tPart (tAll S x i) (vT x i)).2.1 (tPart (tAll S x i) (vT x i)).1 (i + 1) 1
      rw [a6]
      exact RV.ext (fun j hj => (a4 j hj).symm) a5 i 1 h5
theorem tAll_storm {i : Nat} (hi : i ≤ 18) : kFirst (kSg (tAll S x i).2.1 (tAll S x i).1) (tAll S x i).1 = -9 := by
  obtain ⟨h1, h2, h3, h4, h5⟩ := tAll_r (S := S) (x := x) i
  unfold kFirst
  rw [if_pos (show kSg (tAll S x i).2.1 (tAll S x i).1 0 = 80 by unfold kSg; rw [if_pos (by omega)]; exact h4)]
  exact RV.ok i 100 1 (by omega) h5
end P85

/-! ===== what falls on a plate, and on its row ===== -/
section P32
variable {M : xMem} {p : Nat} {R : xRow}
theorem rStr_close {s : Int32} : rStr (rClose R) s = rStr R s := by unfold rStr; rw [rClose_lo (by decide)]
theorem rLev_close {t : Int32} : rLev (rClose R) t = rLev R t := by unfold rLev; rw [rClose_lo (by decide), rClose_lo (by decide), rClose_lo (by decide), rClose_lo (by decide)]
theorem WFl.close (h : WFl R) : WFl (rClose R) := by unfold WFl; rw [rClose_lo (by decide), rClose_lo (by decide)]; exact h
theorem AlP.tick (h : AlP M p R) (t : Int32) : AlP (kTick M p t) p (upR R 0 (R 0 + t)) := by
  have := h.u0 (M p 0 + t)
  unfold kTick
  rw [h.1] at this ⊢
  exact this
/-- the fate of one that is not merged -/
def rFx (R : xRow) (s : Int32) : Nat := if rStr R s < R 4 then 3 else if rStr R s < rLev R (R 0) then 2 else 0
def rFlx (R : xRow) (s : Int32) : xRow := if rFx R s = 0 then rOpn R (rStr R s + rLev R (R 0) / 2) else R
theorem rFx_close {s : Int32} : rFx (rClose R) s = rFx R s := by unfold rFx; rw [rStr_close, rLev_close, rClose_lo (by decide), rClose_lo (by decide)]
theorem rFl_no {s : Int32} (h : ¬ (R 13 = 1 ∧ R 0 - R 11 < R 2)) : rFt R s = rFx R s ∧ rFl R s = rFlx (if R 13 = 1 then rClose R else R) s := by
  have e : rFt R s = rFx R s := by unfold rFt rFx; rw [if_neg h]
  refine ⟨e, ?_⟩
  unfold rFl rFlx
  rw [if_neg h, e]
  by_cases o : R 13 = 1
  · rw [if_pos o, rFx_close, rStr_close, rLev_close, rClose_lo (by decide)]
  · rw [if_neg o]
theorem rFx_cases {s : Int32} : rFx R s = 3 ∨ rFx R s = 2 ∨ rFx R s = 0 := by unfold rFx; split; exact Or.inl rfl; split; exact Or.inr (Or.inl rfl); exact Or.inr (Or.inr rfl)
theorem rFt_lt {s : Int32} : rFt R s < 4 := by unfold rFt; split; decide; split; decide; split <;> decide
theorem AlP.fall (h : AlP M p R) (h13 : R 13 = 0 ∨ R 13 = 1) (h15 : R 15 = 0 ∨ R 15 = 1) (hw : WFl R) {t0 s0 d : Nat} (e0 : R 0 = nI t0) (e11 : R 11 = nI s0) (hs : s0 ≤ t0) (ht : t0 + d < 2 ^ 30) (s : Int32) :
    kRcF (kTick M p (nI d)) p s = nI (rDrF R (nI d) s) ∧ AlP (kRcM (kTick M p (nI d)) p s) p (rFl (rGo R (nI d)) s) := by
  have h1 := h.tick (nI d)
  unfold rDrF
  generalize hR1 : upR R 0 (R 0 + nI d) = R1 at h1
  generalize kTick M p (nI d) = M1 at h1
  have r0 : R1 0 = nI (t0 + d) := by rw [← hR1, upR_s, e0, nI_add]
  have rn : ∀ i, i ≠ 0 → R1 i = R i := fun i hi => by rw [← hR1, upR_n hi]
  have r13 : R1 13 = R 13 := rn _ (by decide)
  have r15 : R1 15 = R 15 := rn _ (by decide)
  have r11 : R1 11 = nI s0 := by rw [rn _ (by decide), e11]
  have hw1 : WFl R1 := by unfold WFl; rw [rn _ (by decide), rn _ (by decide)]; exact hw
  have m0 : M1 p 0 = nI (t0 + d) := by rw [h1.1, r0]
  have m4 : M1 p 4 = R1 11 := h1.2.2.1
  have m6 : M1 p 6 = R1 13 := h1.2.2.2.2.1
  have q0 : M1 (p + 1) 0 = R1 1 := h1.2.2.2.2.2.2.2.1 0 (by decide)
  have q1 : M1 (p + 1) 1 = R1 2 := h1.2.2.2.2.2.2.2.1 1 (by decide)
  have q3 : M1 (p + 1) 3 = R1 4 := h1.2.2.2.2.2.2.2.1 3 (by decide)
  have es : kStr M1 p s = rStr R1 s := by unfold kStr rStr; rw [q0]
  have el : kLev M1 p (M1 p 0) = rLev R1 (R1 0) := by rw [m0, r0]; exact h1.lev hw1 ht (by omega) r11
  by_cases mg : R1 13 = 1 ∧ R1 0 - R1 11 < R1 2
  · have g : rGo R (nI d) = R1 := by unfold rGo; rw [hR1, if_neg (fun q => q.2.2 mg.2)]
    have ef : kRcF M1 p s = 1 := by
      unfold kRcF kFate
      rw [if_pos]
      rw [m6, h1.1, m4, q1]
      exact ⟨by rw [mg.1]; decide, mg.2⟩
    rw [g]
    refine ⟨by rw [ef]; unfold rFt; rw [if_pos mg]; rfl, ?_⟩
    unfold kRcM rFl
    rw [if_pos ef, if_pos mg]
    dsimp only
    rw [es, h1.2.2.2.1]
    have hm := h1.much (R1 12 + rStr R1 s)
    have := hm.u7 (kStrike M1 p (R1 12 + rStr R1 s) p 7 + 1)
    rw [hm.2.2.2.2.2.1] at this ⊢
    exact this
  · have ef : kRcF M1 p s = nI (rFx R1 s) := by
      unfold kRcF kFate
      rw [if_neg (by rw [m6, h1.1, m4, q1]; intro q; exact mg ⟨by rcases h13 with z | z; exact absurd (r13.trans z) q.1; exact r13.trans z, q.2⟩), es, el, q3]
      unfold rFx
      split
      · rfl
      · split <;> rfl
    have n1 : ¬ kRcF M1 p s = 1 := by rw [ef]; rcases rFx_cases (R := R1) (s := s) with e | e | e <;> rw [e] <;> decide
    have z0 : kRcF M1 p s = 0 ↔ rFx R1 s = 0 := by rw [ef]; rcases rFx_cases (R := R1) (s := s) with e | e | e <;> rw [e] <;> decide
    -- what is left behind the closing
    have fin : ∀ Rc, AlP (kClose M1 p) p Rc → WFl Rc → Rc 0 = R1 0 → Rc 11 = R1 11 → rFx Rc s = rFx R1 s → rStr Rc s = rStr R1 s → AlP (kRcM M1 p s) p (rFlx Rc s) := by
      intro Rc hc wc c0 c11 cf cs
      have c0' : kClose M1 p p 0 = nI (t0 + d) := by rw [hc.1, c0, r0]
      have cl : kLev (kClose M1 p) p (kClose M1 p p 0) = rLev Rc (Rc 0) := by rw [c0', c0, r0]; exact hc.lev (s := s0) wc ht (by omega) (by rw [c11, r11])
      unfold kRcM rFlx
      rw [if_neg n1, cf, es, cl, cs]
      by_cases z : rFx R1 s = 0
      · rw [if_pos (z0.mpr z), if_pos z]; exact hc.opn _
      · rw [if_neg (fun q => z (z0.mp q)), if_neg z]; exact hc
    rcases h13 with o | o
    · have o1 : R1 13 = 0 := by rw [r13, o]
      have g : rGo R (nI d) = R1 := by unfold rGo; rw [hR1, if_neg (fun q => absurd (q.2.1.symm.trans o1) (by decide))]
      obtain ⟨f1, f2⟩ := rFl_no (R := R1) (s := s) mg
      rw [if_neg (by rw [o1]; decide)] at f2
      rw [g, f1, f2]
      refine ⟨ef, fin R1 ?_ hw1 rfl rfl rfl rfl⟩
      unfold kClose
      rw [if_pos (by rw [m6, o1])]
      exact h1
    · have o1 : R1 13 = 1 := by rw [r13, o]
      have hc := h1.close o1 (by rw [r15]; exact h15)
      have key : rFt (rGo R (nI d)) s = rFx R1 s ∧ rFl (rGo R (nI d)) s = rFlx (rClose R1) s := by
        unfold rGo
        rw [hR1]
        split
        · obtain ⟨f1, f2⟩ := rFl_no (R := rClose R1) (s := s) (fun q => absurd (rClose_13.symm.trans q.1) (by decide))
          rw [if_neg (by rw [rClose_13]; decide)] at f2
          exact ⟨f1.trans rFx_close, f2⟩
        · obtain ⟨f1, f2⟩ := rFl_no (R := R1) (s := s) mg
          rw [if_pos o1] at f2
          exact ⟨f1, f2⟩
      rw [key.1, key.2]
      exact ⟨ef, fin _ hc hw1.close (rClose_lo (by decide)) (rClose_lo (by decide)) rFx_close rStr_close⟩
theorem AlP.pass (h : AlP M p R) (h13 : R 13 = 0 ∨ R 13 = 1) (h15 : R 15 = 0 ∨ R 15 = 1) {t : Int32} (ht : 0 < t) : AlP (kPass M p t) p (rGo R t) := by
  have h1 := h.tick t
  unfold kPass rGo
  generalize hR1 : upR R 0 (R 0 + t) = R1 at h1
  generalize kTick M p t = M1 at h1
  have r13 : R1 13 = R 13 := by rw [← hR1, upR_n (by decide)]
  have r15 : R1 15 = R 15 := by rw [← hR1, upR_n (by decide)]
  have m4 : M1 p 4 = R1 11 := h1.2.2.1
  have m6 : M1 p 6 = R1 13 := h1.2.2.2.2.1
  have q1 : M1 (p + 1) 1 = R1 2 := h1.2.2.2.2.2.2.2.1 1 (by decide)
  rw [m6, q1, h1.1, m4]
  by_cases c : R1 13 = 1 ∧ ¬ R1 0 - R1 11 < R1 2
  · rw [if_pos ⟨by rw [c.1]; decide, c.2⟩, if_pos ⟨ht, c.1, c.2⟩]
    exact h1.close c.1 (by rw [r15]; exact h15)
  · rw [if_neg (fun q => c ⟨by rw [r13] at q ⊢; exact h13.resolve_left q.1, q.2⟩), if_neg (fun q => c ⟨q.2.1, q.2.2⟩)]
    exact h1
end P32

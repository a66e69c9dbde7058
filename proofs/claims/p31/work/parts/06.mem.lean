/-! ===== the V layer: memory ===== -/
section VM
variable {E : xEnv} {l : Launch} {Y : xY} {Q : xQ} {cs : Nat × Nat} {pc : Nat} {ls : List (Option Value)} {st : List Value}
variable {x : Bool} {n : Nat} {K : xKnd} {G : xRef} {M : xMem} {L : xLng}
def xup {α : Type} (M : Nat → Nat → α) (a i : Nat) (v : α) : Nat → Nat → α := fun a' i' => if a' = a ∧ i' = i then v else M a' i'
theorem xup_s {α : Type} {M : Nat → Nat → α} {a i : Nat} {v : α} : xup M a i v a i = v := by simp [xup]
theorem xup_n {α : Type} {M : Nat → Nat → α} {a i a' i' : Nat} {v : α} (h : ¬ (a' = a ∧ i' = i)) : xup M a i v a' i' = M a' i' := by simp only [xup, if_neg h]
theorem xup_k {α : Type} {M : Nat → Nat → α} {a i a' i' : Nat} {v : α} (h : a' ≠ a) : xup M a i v a' i' = M a' i' := xup_n fun q => h q.1
theorem xup_i {α : Type} {M : Nat → Nat → α} {a i a' i' : Nat} {v : α} (h : i' ≠ i) : xup M a i v a' i' = M a' i' := xup_n fun q => h q.2
theorem xCell.kept {H H1 : Heap} {k : Nat} {G' : xRef} {M' : xMem} {L' : xLng} (h : xCell E K G M L H k) (hq : H1[xAd E k]? = H[xAd E k]?) (hv : ∀ i, xVal E K G' M' L' k i = xVal E K G M L k i) : xCell E K G' M' L' H1 k := by
  have e : xVal E K G' M' L' k = xVal E K G M L k := funext hv
  refine ⟨fun hk => ?_, fun h1 h2 => ?_⟩
  · obtain ⟨r, a1, a2, a3⟩ := h.1 hk
    exact ⟨r, a1, a2, by rw [e]; exact a3.kept hq⟩
  · rw [hq, e]; exact h.2 h1 h2
theorem xVal_congr {G' : xRef} {M' : xMem} {L' : xLng} {k i : Nat} (h1 : G' k i = G k i) (h2 : M' k i = M k i) (h3 : L' k i = L k i) : xVal E K G' M' L' k i = xVal E K G M L k i := by
  unfold xVal; rw [h1, h2, h3]
theorem xRel.put {H H1 : Heap} {a t N : Nat} {G' : xRef} {M' : xMem} {L' : xLng} (h : xRel E (x, n, K, G, M, L) H) (ha : xIs n K a t N) (hz : H1.size = H.size) (hq : ∀ z : Nat, z ≠ xAd E a → H1[z]? = H[z]?)
    (hv : ∀ k i, k ≠ a → G' k i = G k i ∧ M' k i = M k i ∧ L' k i = L k i) (hc : xCell E K G' M' L' H1 a) : xRel E (x, n, K, G', M', L') H1 := by
  refine ⟨fun k h3 hk => ?_, h.2.1, by rw [hz]; exact h.2.2.1, by rw [hz]; exact h.2.2.2⟩
  by_cases e : k = a
  · rw [e]; exact hc
  · exact (h.1 k h3 hk).kept (hq _ fun z => e (xAd_inj h3 ha.1 z)) fun i => xVal_congr (hv k i e).1 (hv k i e).2.1 (hv k i e).2.2
/-- a field: class c, slot k, of the constant idx of the class own -/
def xFld (own : String) (idx c k : Nat) : Prop := ∃ r : vw_C, vwCl[c]? = some r ∧ k < r.2.2 ∧ (∀ w ∈ u_ws r.1 r.2.1 r.2.2, w ∈ xTT) ∧
  (Cond.fieldLink own idx (r.2.1 k).1 (r.2.1 k).2.1 (r.2.1 k).2.2.1 ∈ xTT ∨ ∃ host : String, Cond.fieldLinkNest own idx (r.2.1 k).1 (r.2.1 k).2.1 (r.2.1 k).2.2.1 host ∈ xTT)
theorem vwCl_lt {c : Nat} {r : vw_C} (h : vwCl[c]? = some r) : c < 10 := by
  have := (List.getElem?_eq_some_iff.mp h).1
  simp [vwCl] at this
  omega
theorem V_getf {a c N k idx : Nat} (f : xFld Y.1.cls idx c k) (d : decode Y.2.1 pc = .ok (.getfield idx, 3)) (h : xIs n K a c N) (kk : ∀ v, v = xVal E K G M L a k → ∀ p e s m args below meth cc, xCtx E Y p s m args meth cc → ∀ H locs lc, xHas E lc Y.2.2.1 ls → xRel E (x, n, K, G, M, L) H → va_S (xA E) s.heap H locs → W p l e Y.2.2.2.2.1 s m args below meth cc H locs cs.1 cs.2 (Q s args below) (F0 m (pc + 3) lc (v :: st.map (xv E)))) :
    V E l Y Q (x, n, K, G, M, L) cs pc ls (.ref a :: st) := by
  intro p e s m args below meth cc C H locs lc hl hR hS
  obtain ⟨r, h1, hk, hin, hlink⟩ := f
  obtain ⟨hx, hb, hml, hr, hlk, hnm, hown, hts, hKn, htab⟩ := id C
  obtain ⟨r2, g1, g2, cell, q1, q2, q3, q4⟩ := (hR.1 a h.1 h.2.1).1 (show (K a).1 < 10 by rw [h.2.2.1]; exact vwCl_lt h1)
  dsimp only at g1 g2 q2 q4
  rw [h.2.2.1] at g1 g2 q2 q4
  cases h1.symm.trans g1
  obtain ⟨hSl, hfc, kC, hkC, hkind⟩ := hKn.1.1 c r h1
  obtain ⟨cf, kf, fi, fd, hi, hsl⟩ := hSl k hk
  have hst := (u_facts hfc hkC (u_lays hts hin hk) hi).1
  have hsl2 : cell.slots[fd.slot]? = some (xVal E K G M L a k) := by rw [hsl]; exact q4 k hk
  have kk' := kk _ rfl p e s m args below meth cc C H locs lc hl hR hS
  rcases hlink with hl1 | ⟨host, hl1⟩
  · exact W.getf hx hb hown (hts _ hl1) hi hst q1 (by rw [q3]; exact fun z => by cases z) hsl2 rfl rfl d kk'
  · exact va_Wgetf hx hb hown (hts _ hl1) hi hst q1 (by rw [q3]; exact fun z => by cases z) hsl2 rfl rfl d kk'
theorem V_getI {a c N k idx : Nat} (f : xFld Y.1.cls idx c k) (d : decode Y.2.1 pc = .ok (.getfield idx, 3)) (h : xIs n K a c N) (ht : xTy c k = 0 := by rfl) (kk : V E l Y Q (x, n, K, G, M, L) cs (pc + 3) ls (.int (M a k) :: st)) : V E l Y Q (x, n, K, G, M, L) cs pc ls (.ref a :: st) :=
  V_getf f d h fun v hv p e s m args below meth cc C H locs lc hl hR hS => by
    have e1 : v = .int (M a k) := by rw [hv]; unfold xVal; rw [h.2.2.1, if_pos ht]
    subst e1
    exact kk p e s m args below meth cc C H locs lc hl hR hS
theorem V_getL {a c N k idx : Nat} (f : xFld Y.1.cls idx c k) (d : decode Y.2.1 pc = .ok (.getfield idx, 3)) (h : xIs n K a c N) (ht : xTy c k = 1 := by rfl) (kk : V E l Y Q (x, n, K, G, M, L) cs (pc + 3) ls (.long (L a k) :: st)) : V E l Y Q (x, n, K, G, M, L) cs pc ls (.ref a :: st) :=
  V_getf f d h fun v hv p e s m args below meth cc C H locs lc hl hR hS => by
    have e1 : v = .long (L a k) := by rw [hv]; unfold xVal; rw [h.2.2.1, if_neg (by rw [ht]; decide), if_pos ht]
    subst e1
    exact kk p e s m args below meth cc C H locs lc hl hR hS
theorem V_getR {a b c N k idx : Nat} (f : xFld Y.1.cls idx c k) (d : decode Y.2.1 pc = .ok (.getfield idx, 3)) (h : xIs n K a c N) (hg : G a k = some b) (ht : xTy c k = 2 := by rfl) (kk : V E l Y Q (x, n, K, G, M, L) cs (pc + 3) ls (.ref b :: st)) : V E l Y Q (x, n, K, G, M, L) cs pc ls (.ref a :: st) :=
  V_getf f d h fun v hv p e s m args below meth cc C H locs lc hl hR hS => by
    have e1 : v = .ref (xAd E b) := by rw [hv]; unfold xVal; rw [h.2.2.1, if_neg (by rw [ht]; decide), if_neg (by rw [ht]; decide), hg]; rfl
    subst e1
    exact kk p e s m args below meth cc C H locs lc hl hR hS
/-- a field that is written -/
def xFldW (own : String) (idx c k : Nat) (ty : FieldType) (fin : Bool) : Prop := ∃ (r : vw_C) (ty0 : Nat → FieldType), vwCl[c]? = some r ∧ k < r.2.2 ∧ (∀ w ∈ u_ws r.1 r.2.1 r.2.2, w ∈ xTT) ∧
  (Cond.fieldLink own idx (r.2.1 k).1 (r.2.1 k).2.1 (r.2.1 k).2.2.1 ∈ xTT ∨ (fin = false ∧ ∃ host : String, Cond.fieldLinkNest own idx (r.2.1 k).1 (r.2.1 k).2.1 (r.2.1 k).2.2.1 host ∈ xTT)) ∧
  (∀ k, k < r.2.2 → parseFieldDescriptor (r.2.1 k).2.2.1 = some (ty0 k)) ∧ (∀ a, a < r.2.2 → ∀ b, b < r.2.2 → a ≠ b → (r.2.1 a).2.1 ≠ (r.2.1 b).2.1) ∧ ty0 k = ty ∧ (r.2.1 k).2.2.2 = fin ∧ (fin = true → (r.2.1 k).1 = own)
theorem V_putf {a c N k idx : Nat} {ty : FieldType} {fin : Bool} {v : Value} {G' : xRef} {M' : xMem} {L' : xLng} (f : xFldW Y.1.cls idx c k ty fin) (d : decode Y.2.1 pc = .ok (.putfield idx, 3)) (h : xIs n K a c N) (hfin : fin = true → Y.1.name = "<init>")
    (hn : narrow ty (xv E v) = xv E v) (hfit : fits ty (xv E v) = true) (hv : ∀ k' i, k' ≠ a → G' k' i = G k' i ∧ M' k' i = M k' i ∧ L' k' i = L k' i) (hv2 : ∀ i, i ≠ k → xVal E K G' M' L' a i = xVal E K G M L a i) (hv3 : xVal E K G' M' L' a k = xv E v)
    (kk : V E l Y Q (x, n, K, G', M', L') cs (pc + 3) ls st) : V E l Y Q (x, n, K, G, M, L) cs pc ls (v :: .ref a :: st) := by
  intro p e s m args below meth cc C H locs lc hl hR hS
  obtain ⟨r, ty0, h1, hk, hin, hlink, hty, hnmd, htk, hf, hdecl⟩ := f
  obtain ⟨hx, hb, hml, hr, hlk, hnm, hown, hts, hKn, htab⟩ := id C
  obtain ⟨r2, g1, g2, cell, q1, q2, q3, q4⟩ := (hR.1 a h.1 h.2.1).1 (show (K a).1 < 10 by rw [h.2.2.1]; exact vwCl_lt h1)
  dsimp only at g1 g2 q2 q4
  rw [h.2.2.1] at g1 g2 q2 q4
  cases h1.symm.trans g1
  have hap := va_apart (D := E.1) (cl := vwCl) (own := Y.1.cls) (C := r.1) (T := r.2.1) (N := r.2.2) (ci := c) hts hin ty0 hty hnmd hKn.1 h1
  obtain ⟨hSl, hfc, kC, hkC, hkind⟩ := hKn.1.1 c r h1
  obtain ⟨cf, kf, fi, fd, hi, hsl⟩ := hSl k hk
  have hst := (u_facts hfc hkC (u_lays hts hin hk) hi).1
  have hd : parseFieldDescriptor (r.2.1 k).2.2.1 = some ty := by rw [hty k hk, htk]
  have hlay := hts _ (hin _ (u_in_lay hk))
  have hlt : fd.slot < cell.slots.size := by rw [hsl]; exact k2_hasslot (q4 k hk)
  have A1 : xA E (xAd E a) := xAd_A h.1
  have fin' : ∀ H' : Heap, H'[xAd E a]? = some (cell.setSlot fd.slot (xv E v)) → H'.size = H.size → (∀ z, z ≠ xAd E a → H'[z]? = H[z]?) →
      W p l e Y.2.2.2.2.1 s m args below meth cc H' (locs ++ [⟨xAd E a, fd.slot⟩]) cs.1 cs.2 (Q s args below) (F0 m (pc + 3) lc (st.map (xv E))) := by
    intro H' e1 e2 e3
    refine kk p e s m args below meth cc C H' _ lc hl (hR.put h e2 e3 hv ⟨fun _ => ?_, fun z => ?_⟩) (hS.put e2 e3 A1)
    · rw [h.2.2.1]
      refine ⟨r, h1, g2, ?_⟩
      rw [hsl] at e1
      refine t_OB.to (V := updV (xVal E K G M L a) k (xv E v)) ⟨_, e1, q2, q3, t_set q4 hap hk (xv E v)⟩ (fun j hj => ?_)
      unfold updV
      by_cases ej : j = k
      · rw [if_pos ej, ej]; exact hv3.symm
      · rw [if_neg ej]; exact (hv2 j ej).symm
    · rw [h.2.2.1] at z
      have := vwCl_lt h1
      exact absurd z (by dsimp only; omega)
  unfold u_lay at hlay
  cases fin with
  | false =>
    rw [if_neg (by rw [hf]; decide)] at hlay
    have h6 := u_store hfc hkC hkind hlay hi hd hn hfit
    rcases hlink with hl1 | ⟨-, host, hl1⟩
    · exact W.putK hx hb (f := fd) ⟨hown, hts _ hl1, ⟨_, _, _, hi⟩, hst⟩ (by rw [q2]; exact h6) q1 q3 hlt rfl rfl d fin'
    · exact va_WputK hx hb (f := fd) hown (hts _ hl1) hi hst (by rw [q2]; exact h6) q1 q3 hlt rfl rfl d fin'
  | true =>
    rw [if_pos hf] at hlay
    have hcf : m.cls = cf := by
      obtain ⟨_, _, c', _, _, _, -, -, hf', -, -, -, hown2, -⟩ := Cond.laysFinal_spec hlay
      have e1 : c' = cf := by have := hi.symm.trans hf'; simp at this; exact this.1.symm
      rw [hdecl rfl] at hown2
      rw [← e1]; exact Option.some.inj (hown.symm.trans hown2)
    have h6 := u_fits hfc hkC hkind (Or.inr hlay) hi hd hn hfit
    rcases hlink with hl1 | ⟨z, -⟩
    · exact W.putFinK hx hb hown (hts _ hl1) hi hst hcf (by rw [hnm]; exact hfin rfl) (by rw [q2]; exact h6) q1 q3 hlt rfl rfl d fin'
    · cases z
theorem xVal_upM {a i : Nat} {v : Int32} {j : Nat} (hj : j ≠ i) : xVal E K G (xup M a i v) L a j = xVal E K G M L a j := xVal_congr rfl (xup_i hj) rfl
theorem V_putI {a c N k idx : Nat} {v : Int32} (f : xFldW Y.1.cls idx c k .int false) (d : decode Y.2.1 pc = .ok (.putfield idx, 3)) (h : xIs n K a c N) (ht : xTy c k = 0 := by rfl)
    (kk : V E l Y Q (x, n, K, G, xup M a k v, L) cs (pc + 3) ls st) : V E l Y Q (x, n, K, G, M, L) cs pc ls (.int v :: .ref a :: st) :=
  V_putf (G' := G) (M' := xup M a k v) (L' := L) f d h (fun z => by cases z) rfl rfl (fun k' i hk => ⟨rfl, xup_k hk, rfl⟩) (fun i hi => xVal_upM hi) (by unfold xVal; rw [h.2.2.1, if_pos ht, xup_s]; rfl) kk
theorem V_putZ {a c N k idx : Nat} {v : Int32} (f : xFldW Y.1.cls idx c k .boolean false) (d : decode Y.2.1 pc = .ok (.putfield idx, 3)) (h : xIs n K a c N) (hv : v = 0 ∨ v = 1) (ht : xTy c k = 0 := by rfl)
    (kk : V E l Y Q (x, n, K, G, xup M a k v, L) cs (pc + 3) ls st) : V E l Y Q (x, n, K, G, M, L) cs pc ls (.int v :: .ref a :: st) :=
  V_putf (G' := G) (M' := xup M a k v) (L' := L) f d h (fun z => by cases z) (by rcases hv with rfl | rfl <;> rfl) (by rcases hv with rfl | rfl <;> rfl) (fun k' i hk => ⟨rfl, xup_k hk, rfl⟩) (fun i hi => xVal_upM hi) (by unfold xVal; rw [h.2.2.1, if_pos ht, xup_s]; rfl) kk
theorem V_putL {a c N k idx : Nat} {v : Int64} (f : xFldW Y.1.cls idx c k .long false) (d : decode Y.2.1 pc = .ok (.putfield idx, 3)) (h : xIs n K a c N) (ht : xTy c k = 1 := by rfl)
    (kk : V E l Y Q (x, n, K, G, M, xup L a k v) cs (pc + 3) ls st) : V E l Y Q (x, n, K, G, M, L) cs pc ls (.long v :: .ref a :: st) :=
  V_putf (G' := G) (M' := M) (L' := xup L a k v) f d h (fun z => by cases z) rfl rfl (fun k' i hk => ⟨rfl, rfl, xup_k hk⟩) (fun i hi => xVal_congr rfl rfl (xup_i hi)) (by unfold xVal; rw [h.2.2.1, if_neg (by rw [ht]; decide), if_pos ht, xup_s]; rfl) kk
theorem V_putR {a b c N k idx : Nat} {ty : FieldType} (f : xFldW Y.1.cls idx c k ty true) (d : decode Y.2.1 pc = .ok (.putfield idx, 3)) (h : xIs n K a c N) (hi : Y.1.name = "<init>") (hty : (∃ t, ty = .object t) ∨ ∃ t, ty = .array t) (ht : xTy c k = 2 := by rfl)
    (kk : V E l Y Q (x, n, K, xup G a k (some b), M, L) cs (pc + 3) ls st) : V E l Y Q (x, n, K, G, M, L) cs pc ls (.ref b :: .ref a :: st) :=
  V_putf (G' := xup G a k (some b)) (M' := M) (L' := L) f d h (fun _ => hi) (by rcases hty with ⟨t, rfl⟩ | ⟨t, rfl⟩ <;> rfl) (by rcases hty with ⟨t, rfl⟩ | ⟨t, rfl⟩ <;> rfl) (fun k' i hk => ⟨xup_k hk, rfl, rfl⟩) (fun i hi => xVal_congr (xup_i hi) rfl rfl) (by unfold xVal; rw [h.2.2.1, if_neg (by rw [ht]; decide), if_neg (by rw [ht]; decide), xup_s]; rfl) kk
/-! arrays -/
theorem xIs.arr {a t N : Nat} {H : Heap} (h : xIs n K a t N) (hR : xRel E (x, n, K, G, M, L) H) (h1 : 10 ≤ t) (h2 : t < 14) : H[xAd E a]? = some (arrV (E.2.1 t) N (xVal E K G M L a)) := by
  have := (hR.1 a h.1 h.2.1).2
  dsimp only at this
  rw [h.2.2.1] at this
  exact this h1 h2
theorem xTyl_of {s : State} (h : xKn E s) : (ArrOfT s (E.2.1 10) .int ∧ va_RA s (E.2.1 10) .int) ∧ True ∧ True ∧ (ArrOfT s (E.2.1 13) (.object RX3) ∧ va_RA s (E.2.1 13) (.object RX3)) :=
  ⟨h.1.2 0 _ rfl, trivial, trivial, h.1.2 1 _ rfl⟩
theorem xin {i : Int32} {j N : Nat} (hi : i = nI j) (hj : j < N) (hN : N < 2 ^ 31) : ¬ (i < 0 ∨ N ≤ i.toNatClampNeg) ∧ i.toNatClampNeg = j := by
  subst hi
  exact ⟨nI_in hj hN, nI_clamp (by omega)⟩
theorem V_iald {a N j : Nat} {i : Int32} (d : decode Y.2.1 pc = .ok (.iaload, 1)) (h : xIs n K a 10 N) (hi : i = nI j) (hj : j < N) (kk : V E l Y Q (x, n, K, G, M, L) cs (pc + 1) ls (.int (M a j) :: st)) : V E l Y Q (x, n, K, G, M, L) cs pc ls (.int i :: .ref a :: st) := by
  intro p e s m args below meth cc C H locs lc hl hR hS
  obtain ⟨g1, g2⟩ := xin hi hj h.2.2.2
  have hc := h.arr hR (by omega) (by omega)
  exact W.iald (v := .int (M a j)) C.1 C.2.1 hc ((xTyl_of C.2.2.2.2.2.2.2.2.1).1.1 N _) (fun z => by cases z) (by rw [arrV_size]; exact g1) (by rw [g2, arrV_read _ _ hj]; unfold xVal; rw [h.2.2.1]; rfl) rfl rfl d (kk p e s m args below meth cc C H locs lc hl hR hS)
theorem V_alen {a t N : Nat} (d : decode Y.2.1 pc = .ok (.arraylength, 1)) (h : xIs n K a t N) (ht : t = 10 ∨ t = 13 := by decide) (h2 : t < 14 := by decide) (kk : V E l Y Q (x, n, K, G, M, L) cs (pc + 1) ls (.int (nI N) :: st)) : V E l Y Q (x, n, K, G, M, L) cs pc ls (.ref a :: st) := by
  intro p e s m args below meth cc C H locs lc hl hR hS
  have hc := h.arr hR (by omega) h2
  obtain ⟨t1, t2, t3, t4⟩ := xTyl_of C.2.2.2.2.2.2.2.2.1
  have hk := kk p e s m args below meth cc C H locs lc hl hR hS
  rcases ht with rfl | rfl
  · exact W.alen (n := nI N) C.1 C.2.1 hc (t1.1 N _) (by rw [arrV_size]; rfl) rfl rfl d hk
  · exact W.alen (n := nI N) C.1 C.2.1 hc (t4.1 N _) (by rw [arrV_size]; rfl) rfl rfl d hk
theorem xRel.arr {H H1 : Heap} {a t N j : Nat} {v : Value} {G' : xRef} {M' : xMem} {L' : xLng} (hR : xRel E (x, n, K, G, M, L) H) (h : xIs n K a t N) (h1 : 10 ≤ t) (hz : H1.size = H.size) (hq : ∀ z : Nat, z ≠ xAd E a → H1[z]? = H[z]?)
    (hc : H1[xAd E a]? = some ((arrV (E.2.1 t) N (xVal E K G M L a)).setSlot j v)) (hv : ∀ k i, k ≠ a → G' k i = G k i ∧ M' k i = M k i ∧ L' k i = L k i) (hv2 : ∀ i, xVal E K G' M' L' a i = if i = j then v else xVal E K G M L a i) : xRel E (x, n, K, G', M', L') H1 := by
  refine hR.put h hz hq hv ⟨fun z => ?_, fun _ _ => ?_⟩
  · rw [h.2.2.1] at z; exact absurd z (by dsimp only; omega)
  · rw [hc, h.2.2.1, arrV_store]
    refine congrArg (fun f => some (arrV (E.2.1 t) N f)) (funext fun i => ?_)
    rw [hv2 i]; rfl
theorem V_iast {a N j : Nat} {i v : Int32} (d : decode Y.2.1 pc = .ok (.iastore, 1)) (h : xIs n K a 10 N) (hi : i = nI j) (hj : j < N) (kk : V E l Y Q (x, n, K, G, xup M a j v, L) cs (pc + 1) ls st) : V E l Y Q (x, n, K, G, M, L) cs pc ls (.int v :: .int i :: .ref a :: st) := by
  intro p e s m args below meth cc C H locs lc hl hR hS
  obtain ⟨g1, g2⟩ := xin hi hj h.2.2.2
  have hc := h.arr hR (by omega) (by omega)
  refine W.iast C.1 C.2.1 hc ((xTyl_of C.2.2.2.2.2.2.2.2.1).1.1 N _) (fun z => by cases z) (by rw [arrV_size]; exact g1) rfl rfl d fun H' e1 e2 e3 => ?_
  rw [g2] at e1 ⊢
  refine kk p e s m args below meth cc C H' _ lc hl (hR.arr h (by omega) e2 e3 e1 (fun k i hk => ⟨rfl, xup_k hk, rfl⟩) fun i => ?_) (hS.put e2 e3 (xAd_A h.1))
  unfold xVal
  rw [h.2.2.1]
  show Value.int _ = _
  by_cases e : i = j
  · rw [if_pos e, e, xup_s]
  · rw [if_neg e, xup_i e]; rfl
end VM

/-! ===== the V layer: what is made, the static tables, arrays of objects, Math, throws and handlers ===== -/
section VN
variable {E : xEnv} {l : Launch} {Y : xY} {Q : xQ} {cs : Nat × Nat} {pc : Nat} {ls : List (Option Value)} {st : List Value}
variable {x : Bool} {n : Nat} {K : xKnd} {G : xRef} {M : xMem} {L : xLng}
def xnw {α : Type} (f : Nat → α) (n : Nat) (v : α) : Nat → α := fun k => if k = n then v else f k
theorem xnw_s {α : Type} {f : Nat → α} {n : Nat} {v : α} : xnw f n v n = v := by simp [xnw]
theorem xnw_n {α : Type} {f : Nat → α} {n k : Nat} {v : α} (h : k ≠ n) : xnw f n v k = f k := by simp [xnw, h]
theorem xRel.new {H H1 : Heap} {c N : Nat} (h : xRel E (true, n, K, G, M, L) H) (hz : H1.size = H.size + 1) (hq : ∀ z : Nat, z < H.size → H1[z]? = H[z]?)
    (hc : xCell E (xnw K n (c, N)) (xnw G n fun _ => none) (xnw M n fun _ => 0) (xnw L n fun _ => 0) H1 n) : xRel E (true, n + 1, xnw K n (c, N), xnw G n fun _ => none, xnw M n fun _ => 0, xnw L n fun _ => 0) H1 := by
  obtain ⟨h1, h2, h3, h4⟩ := h
  have h4 := h4 rfl
  dsimp only at h1 h2 h3 h4
  refine ⟨fun k k1 k2 => ?_, by dsimp only; omega, by dsimp only; omega, fun _ => by dsimp only; omega⟩
  by_cases e : k = n
  · rw [e]; exact hc
  · have hk : xCell E K G M L H k := h1 k k1 (by dsimp only at k2; omega)
    have hlt : xAd E k < H.size := by unfold xAd; rw [if_pos k1]; dsimp only at k2; omega
    show xCell E (xnw K n (c, N)) (xnw G n fun _ => none) (xnw M n fun _ => 0) (xnw L n fun _ => 0) H1 k
    unfold xCell at hk ⊢
    rw [xnw_n e, hq _ hlt]
    have ev : xVal E (xnw K n (c, N)) (xnw G n fun _ => none) (xnw M n fun _ => 0) (xnw L n fun _ => 0) k = xVal E K G M L k := by
      funext i; unfold xVal; rw [xnw_n e, xnw_n e, xnw_n e, xnw_n e]
    rw [ev]
    refine ⟨fun z => ?_, hk.2⟩
    obtain ⟨r, a1, a2, a3⟩ := hk.1 z
    exact ⟨r, a1, a2, a3.kept (hq _ hlt)⟩
theorem xRel.top {H : Heap} (h : xRel E (true, n, K, G, M, L) H) : xAd E n = H.size := by
  obtain ⟨h1, h2, h3, h4⟩ := h
  have h4 := h4 rfl
  dsimp only at h2 h4
  unfold xAd; rw [if_pos h2]; omega
def xNew (own : String) (idx c N : Nat) : Prop := ∃ (r : vw_C) (ty0 : Nat → FieldType), vwCl[c]? = some r ∧ r.2.2 = N ∧ (∀ w ∈ u_ws r.1 r.2.1 r.2.2, w ∈ xTT) ∧ Cond.classLink own idx r.1 ∈ xTT ∧ Cond.instantiable r.1 r.2.2 ∈ xTT ∧ Cond.initialized r.1 ∈ xTT ∧
  (∀ k, k < r.2.2 → parseFieldDescriptor (r.2.1 k).2.2.1 = some (ty0 k)) ∧ ∀ k, k < r.2.2 → defaultValue (ty0 k) = (if xTy c k = 0 then .int 0 else if xTy c k = 1 then .long 0 else .null)
theorem V_new {c N idx : Nat} (f : xNew Y.1.cls idx c N) (d : decode Y.2.1 pc = .ok (.new idx, 3)) (h1 : cs.1 + 1 ≤ Y.2.2.2.2.1.cells) (h2 : cs.2 + N ≤ Y.2.2.2.2.1.slots)
    (kk : V E l Y Q (true, n + 1, xnw K n (c, N), xnw G n fun _ => none, xnw M n fun _ => 0, xnw L n fun _ => 0) (cs.1 + 1, cs.2 + N) (pc + 3) ls (.ref n :: st)) : V E l Y Q (true, n, K, G, M, L) cs pc ls st := by
  intro p e s m args below meth cc C H locs lc hl hR hS
  obtain ⟨r, ty0, f1, f2, f3, f4, f5, f6, f7, f8⟩ := f
  subst f2
  obtain ⟨hx, hb, hml, hr, hlk, hnm, hown, hts, hKn, htab⟩ := id C
  have hKc := hKn.1.1 c r f1
  refine W.newcK hx hb hown (hts _ f4) (hts _ f5) (hts _ f6) rfl d h1 h2 hKc.2.1 rfl fun H1 kC hkC e1 z1 o1 => ?_
  rw [← hR.top] at e1 ⊢
  refine kk p e s m args below meth cc C H1 locs lc hl (hR.new z1 o1 ⟨fun _ => ?_, fun z => ?_⟩) ⟨Nat.le_trans hS.1 (by omega), fun z g1 g2 => (o1 z (Nat.lt_of_lt_of_le g1 hS.1)).trans (hS.2.1 z g1 g2), hS.2.2⟩
  · rw [xnw_s]
    refine ⟨r, f1, rfl, (u_born ty0 hts f3 hKc hkC e1 f7).to fun j hj => ?_⟩
    rw [f8 j hj]
    unfold xVal
    rw [xnw_s, xnw_s, xnw_s, xnw_s]
    rfl
  · rw [xnw_s] at z
    have := vwCl_lt f1
    exact absurd z (by dsimp only; omega)
def xAt (t : Nat) (at9 : ArrayType) : Prop := (t = 10 ∧ at9 = .int) ∨ False
theorem V_newarr {t N : Nat} {at9 : ArrayType} {i : Int32} (ht : xAt t at9) (hw : Cond.arrayClass (newarray.typeOf at9) ∈ xTT) (d : decode Y.2.1 pc = .ok (.newarray at9, 2)) (hi : i = nI N) (hN : N < 65536) (h1 : cs.1 + 1 ≤ Y.2.2.2.2.1.cells) (h2 : cs.2 + N ≤ Y.2.2.2.2.1.slots)
    (kk : V E l Y Q (true, n + 1, xnw K n (t, N), xnw G n fun _ => none, xnw M n fun _ => 0, xnw L n fun _ => 0) (cs.1 + 1, cs.2 + N) (pc + 2) ls (.ref n :: st)) : V E l Y Q (true, n, K, G, M, L) cs pc ls (.int i :: st) := by
  intro p e s m args below meth cc C H locs lc hl hR hS
  obtain ⟨hx, hb, hml, hr, hlk, hnm, hown, hts, hKn, htab⟩ := id C
  subst hi
  have hN2 : (nI N).toNatClampNeg = N := nI_clamp (by omega)
  have hb9 : N * componentBytes (newarray.typeOf at9) ≤ 536870912 := by
    have : componentBytes (newarray.typeOf at9) ≤ 8 := by rcases ht with ⟨-, rfl⟩ | ht; decide; exact ht.elim
    calc N * componentBytes (newarray.typeOf at9) ≤ N * 8 := Nat.mul_le_mul_left _ this
      _ ≤ 536870912 := by omega
  refine va_newaK hx hb (hts _ hw) rfl d rfl (nI_pos (by omega)) hN2 hb9 h1 h2 rfl fun H1 cA e1 z1 o1 hAr hNm => ?_
  rw [← hR.top] at e1 ⊢
  obtain ⟨t1, t2, t3, t4⟩ := xTyl_of hKn
  refine kk p e s m args below meth cc C H1 locs lc hl (hR.new z1 o1 ⟨fun z => ?_, fun _ _ => ?_⟩) ⟨Nat.le_trans hS.1 (by omega), fun z g1 g2 => (o1 z (Nat.lt_of_lt_of_le g1 hS.1)).trans (hS.2.1 z g1 g2), hS.2.2⟩
  · rw [xnw_s] at z
    exact absurd z (by dsimp only; rcases ht with ⟨rfl, -⟩ | ht; omega; exact ht.elim)
  · rw [e1, xnw_s]
    have hcA : cA = E.2.1 t := by
      rcases ht with ⟨rfl, rfl⟩ | ht
      · exact Option.some.inj (hNm.symm.trans t1.2)
      · exact ht.elim
    rw [hcA]
    refine congrArg (fun f => some (arrV (E.2.1 t) N f)) (funext fun j => ?_)
    unfold xVal
    rw [xnw_s, xnw_s, xnw_s, xnw_s]
    rcases ht with ⟨rfl, rfl⟩ | ht; rfl; exact ht.elim
theorem V_anew {N idx : Nat} {i : Int32} (hw : Cond.classLink Y.1.cls idx RX3 ∈ xTT) (d : decode Y.2.1 pc = .ok (.anewarray idx, 3)) (hi : i = nI N) (hN : N < 65536) (h1 : cs.1 + 1 ≤ Y.2.2.2.2.1.cells) (h2 : cs.2 + N ≤ Y.2.2.2.2.1.slots)
    (kk : V E l Y Q (true, n + 1, xnw K n (13, N), xnw G n fun _ => none, xnw M n fun _ => 0, xnw L n fun _ => 0) (cs.1 + 1, cs.2 + N) (pc + 3) ls (.ref n :: st)) : V E l Y Q (true, n, K, G, M, L) cs pc ls (.int i :: st) := by
  intro p e s m args below meth cc C H locs lc hl hR hS
  obtain ⟨hx, hb, hml, hr, hlk, hnm, hown, hts, hKn, htab⟩ := id C
  subst hi
  have hN2 : (nI N).toNatClampNeg = N := nI_clamp (by omega)
  obtain ⟨t1, t2, t3, t4⟩ := xTyl_of hKn
  obtain ⟨-, -, -, -, -, -, -, -, -, -, hAO, -⟩ := hKn
  refine W.anew hx hb hown (hts _ hw) (va_AO.use hAO) rfl d rfl (nI_pos (by omega)) (by rw [hN2]; omega) h1 (by rw [hN2]; exact h2) fun cA kA comp f1 f2 f3 f4 => ?_
  rw [hN2]
  generalize hH1 : H.push ({ cls := cA, slots := Array.replicate N .null, vm := .none } : Cell) = H1
  have z1 : H1.size = H.size + 1 := by rw [← hH1, Array.size_push]
  have e1 : H1[H.size]? = some (arrV cA N (fun _ => .null)) := by rw [← hH1, Array.getElem?_push_size, ← arrV_new]
  have o1 : ∀ q : Nat, q < H.size → H1[q]? = H[q]? := fun q hq => by rw [← hH1, Array.getElem?_push, if_neg (Nat.ne_of_lt hq)]
  rw [← hR.top] at e1 ⊢
  refine kk p e s m args below meth cc C H1 locs lc hl (hR.new z1 o1 ⟨fun z => ?_, fun _ _ => ?_⟩) ⟨Nat.le_trans hS.1 (by omega), fun z g1 g2 => (o1 z (Nat.lt_of_lt_of_le g1 hS.1)).trans (hS.2.1 z g1 g2), hS.2.2⟩
  · rw [xnw_s] at z; exact absurd z (by dsimp only; omega)
  · rw [e1, xnw_s]
    obtain ⟨kA2, comp2, k1, k2, k3, k4⟩ := t4.2
    have hcA : cA = E.2.1 13 := Option.some.inj (f1.symm.trans k4)
    rw [hcA]
    refine congrArg (fun f => some (arrV (E.2.1 13) N f)) (funext fun j => ?_)
    unfold xVal
    rw [xnw_s, xnw_s, xnw_s, xnw_s]
    rfl
theorem V_aald {a b N j : Nat} {i : Int32} (d : decode Y.2.1 pc = .ok (.aaload, 1)) (h : xIs n K a 13 N) (hi : i = nI j) (hj : j < N) (hg : G a j = some b) (kk : V E l Y Q (x, n, K, G, M, L) cs (pc + 1) ls (.ref b :: st)) : V E l Y Q (x, n, K, G, M, L) cs pc ls (.int i :: .ref a :: st) := by
  intro p e s m args below meth cc C H locs lc hl hR hS
  obtain ⟨g1, g2⟩ := xin hi hj h.2.2.2
  have hc := h.arr hR (by omega) (by omega)
  exact W.aald (v := .ref (xAd E b)) (ty := .object RX3) C.1 C.2.1 hc ((xTyl_of C.2.2.2.2.2.2.2.2.1).2.2.2.1 N _) rfl (fun z => by cases z) (by rw [arrV_size]; exact g1) (by rw [g2, arrV_read _ _ hj]; unfold xVal; rw [h.2.2.1, hg]; rfl) rfl rfl d (kk p e s m args below meth cc C H locs lc hl hR hS)
theorem V_aast {a b N N2 j : Nat} {i : Int32} (d : decode Y.2.1 pc = .ok (.aastore, 1)) (h : xIs n K a 13 N) (hb2 : xIs n K b 3 N2) (hi : i = nI j) (hj : j < N) (kk : V E l Y Q (x, n, K, xup G a j (some b), M, L) cs (pc + 1) ls st) : V E l Y Q (x, n, K, G, M, L) cs pc ls (.ref b :: .int i :: .ref a :: st) := by
  intro p e s m args below meth cc C H locs lc hl hR hS
  obtain ⟨g1, g2⟩ := xin hi hj h.2.2.2
  have hc := h.arr hR (by omega) (by omega)
  obtain ⟨hx, hb, hml, hr, hlk, hnm, hown, hts, hKn, htab⟩ := id C
  obtain ⟨t1, t2, t3, t4⟩ := xTyl_of hKn
  obtain ⟨kA, comp, k1, k2, k3, -⟩ := t4.2
  obtain ⟨cellV, v1, v2, v3⟩ := hR.recv hb2 hKn (r := (RX3, TX3, 2)) rfl
  have hcls := (hKn.1.1 3 (RX3, TX3, 2) rfl).2
  obtain ⟨kC, hkC, -⟩ := hcls.2
  have e1 : cellV.cls = E.1.1 3 := Option.some.inj (v3.symm.trans hcls.1)
  have e2 : comp = E.1.1 3 := Option.some.inj (k3.symm.trans hcls.1)
  subst e2
  refine W.aast hx hb hc (fun z q => by cases q) (fun z => by cases z) k1 k2 rfl hkC ⟨fun z => g1 (Or.inl z), by rw [arrV_size, g2]; exact hj⟩ v1 (fun z q => by rw [q] at v2; cases v2) (by rw [e1]; exact hkC) (by rw [e1]; exact va_assign hcls) rfl rfl d fun H' e1 e2 e3 => ?_
  rw [g2] at e1 ⊢
  refine kk p e s m args below meth cc C H' _ lc hl (hR.arr h (by omega) e2 e3 e1 (fun k i hk => ⟨xup_k hk, rfl, rfl⟩) fun i => ?_) (hS.put e2 e3 (xAd_A h.1))
  unfold xVal
  rw [h.2.2.1]
  show va_rf _ = _
  by_cases e : i = j
  · rw [if_pos e, e, xup_s]; rfl
  · rw [if_neg e, xup_i e]; rfl
/-! the static tables, the script -/
theorem V_gets {k idx : Nat} {nm : String} (hk : (k = 0 ∧ nm = "LEAST_SETTING") ∨ (k = 1 ∧ nm = "GREATEST_SETTING")) (hw : Cond.fieldLink Y.1.cls idx RX5 nm "[I" ∈ xTT) (d : decode Y.2.1 pc = .ok (.getstatic idx, 3)) {q : xS}
    (kk : V E l Y Q q cs (pc + 3) ls (.ref k :: st)) : V E l Y Q q cs pc ls st := by
  intro p e s m args below meth cc C H locs lc hl hR hS
  obtain ⟨hx, hb, hml, hr, hlk, hnm, hown, hts, hKn, htab⟩ := id C
  obtain ⟨-, -, -, -, -, z0, z1, -⟩ := hKn
  rcases hk with ⟨rfl, rfl⟩ | ⟨rfl, rfl⟩
  · exact va_gets hx hb z0 hS hown (hts _ hw) (fun _ h => h) d (kk p e s m args below meth cc C H locs lc hl hR hS)
  · exact va_gets hx hb z1 hS hown (hts _ hw) (fun _ h => h) d (kk p e s m args below meth cc C H locs lc hl hR hS)
theorem V_getsN {k idx : Nat} {nm host : String} (hk : (k = 0 ∧ nm = "LEAST_SETTING") ∨ (k = 1 ∧ nm = "GREATEST_SETTING")) (hw : Cond.fieldLinkNest Y.1.cls idx RX5 nm "[I" host ∈ xTT) (d : decode Y.2.1 pc = .ok (.getstatic idx, 3)) {q : xS}
    (kk : V E l Y Q q cs (pc + 3) ls (.ref k :: st)) : V E l Y Q q cs pc ls st := by
  intro p e s m args below meth cc C H locs lc hl hR hS
  obtain ⟨hx, hb, hml, hr, hlk, hnm, hown, hts, hKn, htab⟩ := id C
  obtain ⟨-, -, -, -, -, z0, z1, -⟩ := hKn
  rcases hk with ⟨rfl, rfl⟩ | ⟨rfl, rfl⟩
  · exact va_getsN hx hb z0 hS hown (hts _ hw) (fun _ h => h) d (kk p e s m args below meth cc C H locs lc hl hR hS)
  · exact va_getsN hx hb z1 hS hown (hts _ hw) (fun _ h => h) d (kk p e s m args below meth cc C H locs lc hl hR hS)
theorem V_ro {q : xS} {k N j : Nat} {f : Nat → Int32} {i : Int32} (hk : ∀ s, xKn E s → va_X (xAd E k) N f s s.heap ∧ xAd E k < xB E) (hi : i = nI j) (hj : j < N) (hN : N < 2 ^ 31) (d : decode Y.2.1 pc = .ok (.iaload, 1))
    (kk : V E l Y Q q cs (pc + 1) ls (.int (f j) :: st)) : V E l Y Q q cs pc ls (.int i :: .ref k :: st) := by
  intro p e s m args below meth cc C H locs lc hl hR hS
  obtain ⟨g1, g2⟩ := xin hi hj hN
  obtain ⟨hx, hb, hml, hr, hlk, hnm, hown, hts, hKn, htab⟩ := id C
  obtain ⟨k1, k2⟩ := hk s hKn
  have h2 : xB E ≤ s.heap.size := hKn.2.1
  refine va_sld hx hb k1 (by omega) (by unfold xA; omega) hS g1 d ?_
  rw [g2]
  exact kk p e s m args below meth cc C H locs lc hl hR hS
theorem V_ro0 {q : xS} {j : Nat} {i : Int32} (hi : i = nI j) (hj : j < 5) (d : decode Y.2.1 pc = .ok (.iaload, 1)) (kk : V E l Y Q q cs (pc + 1) ls (.int (xLeast j) :: st)) : V E l Y Q q cs pc ls (.int i :: .ref 0 :: st) := V_ro (fun s h => h.2.2.1) hi hj (by decide) d kk
theorem V_ro1 {q : xS} {j : Nat} {i : Int32} (hi : i = nI j) (hj : j < 5) (d : decode Y.2.1 pc = .ok (.iaload, 1)) (kk : V E l Y Q q cs (pc + 1) ls (.int (xGreatest j) :: st)) : V E l Y Q q cs pc ls (.int i :: .ref 1 :: st) := V_ro (fun s h => h.2.2.2.1) hi hj (by decide) d kk
theorem V_ro2 {q : xS} {j : Nat} {i : Int32} (hi : i = nI j) (hj : j < E.2.2.2.1) (hN : E.2.2.2.1 < 2 ^ 31) (d : decode Y.2.1 pc = .ok (.iaload, 1)) (kk : V E l Y Q q cs (pc + 1) ls (.int (E.2.2.2.2 j) :: st)) : V E l Y Q q cs pc ls (.int i :: .ref 2 :: st) := V_ro (fun s h => h.2.2.2.2.1) hi hj hN d kk
theorem V_len2 {q : xS} (d : decode Y.2.1 pc = .ok (.arraylength, 1)) (kk : V E l Y Q q cs (pc + 1) ls (.int (nI E.2.2.2.1) :: st)) : V E l Y Q q cs pc ls (.ref 2 :: st) := by
  intro p e s m args below meth cc C H locs lc hl hR hS
  obtain ⟨hx, hb, hml, hr, hlk, hnm, hown, hts, hKn, htab⟩ := id C
  obtain ⟨k1, k2⟩ := hKn.2.2.2.2.1
  have h2 : xB E ≤ s.heap.size := hKn.2.1
  exact va_slen hx hb k1 (by omega) (by unfold xA; omega) hS d (kk p e s m args below meth cc C H locs lc hl hR hS)
/-! java.lang.Object's constructor; Math -/
theorem V_obj {q : xS} {idx a : Nat} (h1 : Cond.methodLink Y.1.cls idx Lib.objectInit ∈ xTT) (h2 : Cond.instanceMethod Lib.objectInit ∈ xTT) (h3 : Cond.code Lib.objectInit ⟨#[0xb1]⟩ 1 none ∈ xTT) (d : decode Y.2.1 pc = .ok (.invokespecial idx, 3)) (hf : 1 ≤ Y.2.2.2.2.1.frames) (hlo : 20 ≤ Y.2.2.2.2.1.locals) (hW : (st.map fun v => v.category).sum ≤ 8)
    (kk : V E l Y Q q cs (pc + 3) ls st) : V E l Y Q q cs pc ls (.ref a :: st) := by
  intro p e s m args below meth cc C H locs lc hl hR hS
  obtain ⟨hx, hb, hml, hr, hlk, hnm, hown, hts, hKn, htab⟩ := id C
  exact W.objInit hx hb hown (hts _ h1) (hts _ h2) (hts _ h3) rfl (hl.1.trans hml.symm) rfl d hf (by rw [xcat]; show 2 * 0 + _ + 12 ≤ _; omega) (kk p e s m args below meth cc C H locs lc hl hR hS)
theorem V_max {q : xS} {idx : Nat} {a b : Int32} (h1 : Cond.methodLink Y.1.cls idx Lib.Math.max.name ∈ xTT) (h2 : Cond.static Lib.Math.max.name ∈ xTT) (h3 : Cond.initialized "java/lang/Math" ∈ xTT) (h4 : Cond.code Lib.Math.max.name Lib.Math.max.code 2 (some .int) ∈ xTT) (d : decode Y.2.1 pc = .ok (.invokestatic idx, 3)) (hf : 1 ≤ Y.2.2.2.2.1.frames) (hlo : 21 ≤ Y.2.2.2.2.1.locals) (hc : cs.1 ≤ Y.2.2.2.2.1.cells) (hs : cs.2 ≤ Y.2.2.2.2.1.slots) (hW : (st.map fun v => v.category).sum ≤ 8)
    (kk : V E l Y Q q cs (pc + 3) ls (.int (if a < b then b else a) :: st)) : V E l Y Q q cs pc ls (.int b :: .int a :: st) := by
  intro p e s m args below meth cc C H locs lc hl hR hS
  obtain ⟨hx, hb, hml, hr, hlk, hnm, hown, hts, hKn, htab⟩ := id C
  exact va_mmax hx hb (hml.trans hl.1.symm) hown (hts _ h1) (hts _ h2) (hts _ h3) (hts _ h4) hf (by rw [xcat]; omega) hc hs d (kk p e s m args below meth cc C H locs lc hl hR hS)
theorem V_min {q : xS} {idx : Nat} {a b : Int32} (h1 : Cond.methodLink Y.1.cls idx Lib.Math.min.name ∈ xTT) (h2 : Cond.static Lib.Math.min.name ∈ xTT) (h3 : Cond.initialized "java/lang/Math" ∈ xTT) (h4 : Cond.code Lib.Math.min.name Lib.Math.min.code 2 (some .int) ∈ xTT) (d : decode Y.2.1 pc = .ok (.invokestatic idx, 3)) (hf : 1 ≤ Y.2.2.2.2.1.frames) (hlo : 21 ≤ Y.2.2.2.2.1.locals) (hc : cs.1 ≤ Y.2.2.2.2.1.cells) (hs : cs.2 ≤ Y.2.2.2.2.1.slots) (hW : (st.map fun v => v.category).sum ≤ 8)
    (kk : V E l Y Q q cs (pc + 3) ls (.int (if b < a then b else a) :: st)) : V E l Y Q q cs pc ls (.int b :: .int a :: st) := by
  intro p e s m args below meth cc C H locs lc hl hR hS
  obtain ⟨hx, hb, hml, hr, hlk, hnm, hown, hts, hKn, htab⟩ := id C
  exact va_mmin hx hb (hml.trans hl.1.symm) hown (hts _ h1) (hts _ h2) (hts _ h3) (hts _ h4) hf (by rw [xcat]; omega) hc hs d (kk p e s m args below meth cc C H locs lc hl hR hS)
theorem V_absL {q : xS} {idx : Nat} {a : Int64} (h1 : Cond.methodLink Y.1.cls idx Lib.MathLoose.abs_long.x ∈ xTT) (h2 : Cond.static Lib.MathLoose.abs_long.x ∈ xTT) (h3 : Cond.initialized "java/lang/Math" ∈ xTT) (h4 : Cond.code Lib.MathLoose.abs_long.x Lib.MathLoose.abs_long.code 2 (some .long) ∈ xTT) (d : decode Y.2.1 pc = .ok (.invokestatic idx, 3)) (hf : 1 ≤ Y.2.2.2.2.1.frames) (hlo : 21 ≤ Y.2.2.2.2.1.locals) (hc : cs.1 ≤ Y.2.2.2.2.1.cells) (hs : cs.2 ≤ Y.2.2.2.2.1.slots) (hW : (st.map fun v => v.category).sum ≤ 8)
    (kk : V E l Y Q q cs (pc + 3) ls (.long (if 0 < a then a else -a) :: st)) : V E l Y Q q cs pc ls (.long a :: st) := by
  intro p e s m args below meth cc C H locs lc hl hR hS
  obtain ⟨hx, hb, hml, hr, hlk, hnm, hown, hts, hKn, htab⟩ := id C
  exact va_mabs_long hx hb (hml.trans hl.1.symm) hown (hts _ h1) (hts _ h2) (hts _ h3) (hts _ h4) hf (by rw [xcat]; omega) hc hs d (kk p e s m args below meth cc C H locs lc hl hR hS)
/-! throws -/
theorem xRel.grow {H H1 : Heap} {q : xS} (h : xRel E q H) (h1 : H.size ≤ H1.size) (h2 : ∀ z : Nat, z < H.size → H1[z]? = H[z]?) : xRel E (false, q.2) H1 := by
  refine ⟨fun k k1 k2 => (h.1 k k1 k2).kept (h2 _ ?_) fun _ => rfl, h.2.1, Nat.le_trans h.2.2.1 (by omega), fun z => by cases z⟩
  have := h.2.2.1
  unfold xAd; rw [if_pos k1]
  have k3 : k < q.2.1 := k2
  omega
def xThr (own : String) (ik is ic : Nat) (cls text : String) (names : List String) : Prop :=
  Bundle.fit cls = true ∧ (∀ n ∈ names, Bundle.fit n = true) ∧ names.length ≤ 4 ∧ Cond.classLink own ik cls ∈ xTT ∧ Cond.initialized cls ∈ xTT ∧ (own, is, text) ∈ xStrs ∧ (∀ w ∈ vx_atS own ic cls names, w ∈ xTT) ∧ (∀ w ∈ Cond.classLink own ik cls :: Cond.initialized cls :: vx_atS own ic cls names, vx_ot w = true)
theorem V_throw {q : xS} {ik is ic : Nat} {cls text : String} {names : List String} {P : xP} {PX : xPX} (f : xThr Y.1.cls ik is ic cls text names) (hl9 : l.stackTraces = false) (ht : Y.2.2.2.2.2 = [])
    (d0 : decode Y.2.1 pc = .ok (.new ik, 3)) (d3 : decode Y.2.1 (pc + 3) = .ok (.dup, 1)) (d4 : decode Y.2.1 (pc + 4) = .ok (.ldc is, 2)) (d6 : decode Y.2.1 (pc + 6) = .ok (.invokespecial ic, 3)) (d9 : decode Y.2.1 (pc + 9) = .ok (.athrow, 1))
    (hf : 8 ≤ Y.2.2.2.2.1.frames) (hlo : 120 ≤ Y.2.2.2.2.1.locals) (hc : cs.1 + 1 ≤ Y.2.2.2.2.1.cells) (hs : cs.2 + 6 ≤ Y.2.2.2.2.1.slots) (hP : PX cls (false, q.2)) : V E l Y (xQm E Y P PX) q cs pc ls [] := by
  intro p e s m args below meth cc C H locs lc hl hR hS
  obtain ⟨hx, hb, hml, hr, hlk, hnm, hown, hts, hKn, htab⟩ := id C
  obtain ⟨f1, f2, f3, f4, f5, f6, f7, f8⟩ := f
  obtain ⟨-, -, -, -, -, -, -, hU, hN, hstr, -⟩ := hKn
  obtain ⟨sa, hsa⟩ := hstr _ f6
  exact vx_throwS hx hb hl9 hown f1 f2 (hts _ f4) (hts _ f5) hsa (fun w hw => hts _ (f7 w hw)) f8 hU hN hS (hl.1.trans hml.symm) d0 d3 d4 d6 d9 (fun z hz => by rw [htab, ht] at hz; cases hz) (by omega) (by show 0 + _ ≤ _; omega) hc hs hlk
    (fun t hA g1 g2 => ⟨⟨_, hP, hR.grow g1 g2⟩, ⟨Nat.le_trans hS.1 g1, fun z a1 a2 => (g2 z (Nat.lt_of_lt_of_le a1 hS.1)).trans (hS.2.1 z a1 a2)⟩⟩) hS.2.2 hc hs
theorem V_throwW {q : xS} {ik is ic : Nat} {cls text : String} {names : List String} {P : xP} {PX : xPX} (f : xThr Y.1.cls ik is ic cls text names) (hl9 : l.stackTraces = false) (ht : Y.2.2.2.2.2 = [])
    (d0 : decode Y.2.1 pc = .ok (.new ik, 3)) (d3 : decode Y.2.1 (pc + 3) = .ok (.dup, 1)) (d4 : decode Y.2.1 (pc + 4) = .ok (.ldc_w is, 3)) (d7 : decode Y.2.1 (pc + 7) = .ok (.invokespecial ic, 3)) (d10 : decode Y.2.1 (pc + 10) = .ok (.athrow, 1))
    (hf : 8 ≤ Y.2.2.2.2.1.frames) (hlo : 120 ≤ Y.2.2.2.2.1.locals) (hc : cs.1 + 1 ≤ Y.2.2.2.2.1.cells) (hs : cs.2 + 6 ≤ Y.2.2.2.2.1.slots) (hP : PX cls (false, q.2)) : V E l Y (xQm E Y P PX) q cs pc ls [] := by
  intro p e s m args below meth cc C H locs lc hl hR hS
  obtain ⟨hx, hb, hml, hr, hlk, hnm, hown, hts, hKn, htab⟩ := id C
  obtain ⟨f1, f2, f3, f4, f5, f6, f7, f8⟩ := f
  obtain ⟨-, -, -, -, -, -, -, hU, hN, hstr, -⟩ := hKn
  obtain ⟨sa, hsa⟩ := hstr _ f6
  exact vx_throwSW hx hb hl9 hown f1 f2 (hts _ f4) (hts _ f5) hsa (fun w hw => hts _ (f7 w hw)) f8 hU hN hS (hl.1.trans hml.symm) d0 d3 d4 d7 d10 (fun z hz => by rw [htab, ht] at hz; cases hz) (by omega) (by show 0 + _ ≤ _; omega) hc hs hlk
    (fun t hA g1 g2 => ⟨⟨_, hP, hR.grow g1 g2⟩, ⟨Nat.le_trans hS.1 g1, fun z a1 a2 => (g2 z (Nat.lt_of_lt_of_le a1 hS.1)).trans (hS.2.1 z a1 a2)⟩⟩) hS.2.2 hc hs
/-! handlers -/
def VX (E : xEnv) (l : Launch) (Y : xY) (Q : xQ) (Ex : String) (q : xS) (cs : Nat × Nat) (pc : Nat) : Prop :=
  ∀ (p : Program) (e : Env) (s : State) (m : MethodId) (args : Array Value) (below : List Frame) (meth : Method) (c : Code), xCtx E Y p s m args meth c →
  ∀ (H : Heap) (locs : List Loc) (lc : Array Slot) (st : List Value) (q9 : Addr) (ce : Cell), xHas E lc Y.2.2.1 [] → xRel E q H → va_S (xA E) s.heap H locs → H[q9]? = some ce → ce.vm = .none → s.vm.findClass Ex = some ce.cls →
  vx_W p l e Y.2.2.2.2.1 s m args below meth c H locs cs.1 cs.2 (Q s args below) (F0 m pc lc st) q9
theorem VX_catch {q : xS} {Ex name : String} {k : Fin 4} (pre : List ExceptionTableEntry) (x9 : ExceptionTableEntry) (suf : List ExceptionTableEntry) (ht : tableOf Y.2.2.2.2.2 = pre ++ x9 :: suf)
    (hpass : ∀ z ∈ pre, covers z pc = false ∨ (z.catchType ≠ 0 ∧ ∃ nm : String, Cond.classLink Y.1.cls z.catchType nm ∈ xTT ∧ ∀ s, xKn E s → va_Nc Ex nm s)) (hx9 : covers x9 pc = true) (h0 : x9.catchType ≠ 0) (hlink : Cond.classLink Y.1.cls x9.catchType name ∈ xTT) (hcast : Cond.castable Ex name ∈ xTT)
    (d : decode Y.2.1 x9.handlerPc = .ok (.astore_n k, 1)) (hn : (k : Nat) < Y.2.2.1) (kk : V E l Y Q q cs (x9.handlerPc + 1) [] []) : VX E l Y Q Ex q cs pc := by
  intro p e s m args below meth cc C H locs lc st q9 ce hl hR hS hce hcv hcl
  obtain ⟨hx, hb, hml, hr, hlk, hnm, hown, hts, hKn, htab⟩ := id C
  refine vx_catch hown pre x9 suf (htab.trans ht) (fun z hz => ?_) hx9 h0 (hts _ hlink) (hts _ hcast) hce hcv hcl ?_
  · rcases hpass z hz with h | ⟨z0, nm, w1, w2⟩
    · exact Or.inl h
    · exact Or.inr ⟨z0, nm, hts _ w1, w2 s hKn⟩
  · exact lv_astore_n hx hb d rfl (lv := []) ⟨hl.1, hl.2.1, fun _ h => by cases h⟩ hn rfl fun lc' h' => kk p e s m args below meth cc C H locs lc' ⟨h'.1, h'.2.1, fun i v h => by simp at h⟩ hR hS
theorem VX_catchW {q : xS} {Ex name : String} {k : Nat} (pre : List ExceptionTableEntry) (x9 : ExceptionTableEntry) (suf : List ExceptionTableEntry) (ht : tableOf Y.2.2.2.2.2 = pre ++ x9 :: suf)
    (hpass : ∀ z ∈ pre, covers z pc = false ∨ (z.catchType ≠ 0 ∧ ∃ nm : String, Cond.classLink Y.1.cls z.catchType nm ∈ xTT ∧ ∀ s, xKn E s → va_Nc Ex nm s)) (hx9 : covers x9 pc = true) (h0 : x9.catchType ≠ 0) (hlink : Cond.classLink Y.1.cls x9.catchType name ∈ xTT) (hcast : Cond.castable Ex name ∈ xTT)
    (d : decode Y.2.1 x9.handlerPc = .ok (.astore k, 2)) (hn : k < Y.2.2.1) (kk : V E l Y Q q cs (x9.handlerPc + 2) [] []) : VX E l Y Q Ex q cs pc := by
  intro p e s m args below meth cc C H locs lc st q9 ce hl hR hS hce hcv hcl
  obtain ⟨hx, hb, hml, hr, hlk, hnm, hown, hts, hKn, htab⟩ := id C
  refine vx_catch hown pre x9 suf (htab.trans ht) (fun z hz => ?_) hx9 h0 (hts _ hlink) (hts _ hcast) hce hcv hcl ?_
  · rcases hpass z hz with h | ⟨z0, nm, w1, w2⟩
    · exact Or.inl h
    · exact Or.inr ⟨z0, nm, hts _ w1, w2 s hKn⟩
  · exact lv_astore hx hb d (lv := []) ⟨hl.1, hl.2.1, fun _ h => by cases h⟩ hn rfl fun lc' h' => kk p e s m args below meth cc C H locs lc' ⟨h'.1, h'.2.1, fun i v h => by simp at h⟩ hR hS
theorem V_try {Y' : xY} {P : xP} {PX : xPX} {idx a c N : Nat} {As rest : List Value} {r : vw_C} (hk : Cond.methodLink Y.1.cls idx Y'.1 ∈ xTT) (hy : xYok Y' As.length) (hi : Cond.instanceMethod Y'.1 ∈ xTT) (hs : Cond.selects Y'.1.cls Y'.1 Y'.1 ∈ xTT) (hc : vwCl[c]? = some r) (hrc : r.1 = Y'.1.cls)
    (d : decode Y.2.1 pc = .ok (.invokevirtual idx, 3)) (h : xIs n K a c N) (con : Con E l Y' (.ref a :: As) (x, n, K, G, M, L) P PX) (fit : xFit Y Y' cs) (hW : (rest.map fun v => v.category).sum ≤ 8)
    (kx : ∀ Ex q', PX Ex q' → VX E l Y Q Ex q' (cs.1 + Y'.2.2.2.2.1.cells, cs.2 + Y'.2.2.2.2.1.slots) pc)
    (kk : ∀ o q', P o q' → V E l Y Q q' (cs.1 + Y'.2.2.2.2.1.cells, cs.2 + Y'.2.2.2.2.1.slots) (pc + 3) ls (o.toList ++ rest)) : V E l Y Q (x, n, K, G, M, L) cs pc ls (As.reverse ++ .ref a :: rest) := by
  intro p e s m args below meth cc C H locs lc hl hR hS
  obtain ⟨hx, hb, hml, hr, hlk, hnm, hown, hts, hKn, htab⟩ := id C
  have S : CallFix p m cc Y.2.1 Y.2.2.1 s args xTT Y.1.cls := ⟨hx, hb, hml, hown, hts⟩
  have hws := hy.ws hts
  have recv := hR.recv h hKn hc
  rw [hrc] at recv
  have hp : PreV s H Y'.1.cls (xAd E a) (xPre E (.ref a :: As) (x, n, K, G, M, L)) (As.map (xv E)) := ⟨xPre.blind, recv, fun U hU hW => ⟨rfl, hKn.go hS hU hW, by rw [hU]; exact hR⟩⟩
  have hW' : 2 * (F0 m pc lc []).monitorRoom + ((rest.map (xv E)).map fun v => v.category).sum ≤ 8 := by rw [xcat]; show 2 * 0 + _ ≤ 8; omega
  have es : (As.reverse ++ Value.ref a :: rest).map (xv E) = (As.map (xv E)).reverse ++ .ref (xAd E a) :: rest.map (xv E) := by simp [xv]
  rw [es]
  have hr := vx_runV (g := F0 m pc lc ((As.map (xv E)).reverse ++ .ref (xAd E a) :: rest.map (xv E))) (locs := locs) (cells := cs.1) (slots := cs.2) (p := p) (e := e) (below := below) (meth := meth) (C := Y'.1.cls) (n := As.length) S con ⟨⟨rfl, rfl, fit.1, fit.2.1, hws, hy.mem, hts _ hy.2.1, hts _ hy.2.2.1, ⟨hy.2.2.2.1, hy.2.2.2.2.1⟩, hy.len, hts _ hk⟩, hts _ hi, hts _ hs⟩ hp rfl (by simp) hl.1 rfl hW' d fit.2.2
  have keep : ∀ {st₀ t T' : State} {Lz : List Loc}, st₀.heap = H → T'.heap = t.heap → (∀ z ∈ Lz, xA E z.base) → va_F (xA E) st₀ t → va_S (xA E) s.heap T'.heap (locs ++ Lz) := by
    intro st₀ t T' Lz h0 e1 hL hF
    obtain ⟨hz, hk⟩ := hF
    rw [h0] at hz hk
    exact ⟨Nat.le_trans hS.1 (by rw [e1]; exact hz), fun z h1 h2 => by rw [e1, hk z (Nat.lt_of_lt_of_le h1 hS.1) h2]; exact hS.2.1 z h1 h2, fun z hz => by
      rcases List.mem_append.mp hz with h | h
      · exact hS.2.2 z h
      · exact hL z h⟩
  intro T hT X
  rcases hr T hT X with ⟨v, st₀, t, T', Lz, h0, X', hL, e1, e2, ⟨⟨o, q', hv, hP, hq⟩, hF⟩, sg⟩ | ⟨q9, st₀, t, T', Lz, Ex, ce, h0, X', hL, e1, e2, ⟨⟨q', hP, hq⟩, hF⟩, hce, hcv, hcl, sg⟩
  · cases hv
    have := kk o q' hP p e s m args below meth cc C T'.heap (locs ++ Lz) lc hl (by rw [e1]; exact hq) (keep h0 e1 hL hF) T' rfl (by exact X')
    rw [List.map_append] at this
    obtain ⟨t2, a1, b1⟩ := this
    refine ⟨t2, sg t2 ?_, b1⟩
    cases o <;> exact a1
  · obtain ⟨t2, a1, b1⟩ := kx Ex q' hP p e s m args below meth cc C T'.heap (locs ++ Lz) lc (rest.map (xv E)) q9 ce ⟨hl.1, hl.2.1, fun i v h => by simp at h⟩ (by rw [e1]; exact hq) (keep h0 e1 hL hF) (by rw [e1]; exact hce) hcv hcl T' rfl X'
    exact ⟨t2, sg.trans a1, b1⟩
end VN

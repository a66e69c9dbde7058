/-! ===== the law: its calls of the class, with their handlers ===== -/
theorem V_loose {E : xEnv} {l : Launch} {Y : xY} {Q : xQ} {q : xS} {cs : Nat × Nat} {pc : Nat} {ls : List (Option Value)} {st : List Value} (k : V E l Y Q (false, q.2) cs pc ls st) : V E l Y Q q cs pc ls st :=
  fun p e s m args below meth c C H locs lc hl hR hS => k p e s m args below meth c C H locs lc hl ⟨hR.1, hR.2.1, hR.2.2.1, fun z => by cases z⟩ hS
theorem xC_one {k : Nat} {a Ex : String} (h0 : 0 < k) (h : [a][k - 1]? = some Ex) : k = 1 ∧ Ex = a := by
  obtain ⟨j, rfl⟩ : ∃ j, k = j + 1 := ⟨k - 1, by omega⟩
  match j, h with
  | 0, h => exact ⟨rfl, (Option.some.inj h).symm⟩
  | j + 1, h => simp at h
theorem xC_two {k : Nat} {a b Ex : String} (h0 : 0 < k) (h : [a, b][k - 1]? = some Ex) : (k = 1 ∧ Ex = a) ∨ (k = 2 ∧ Ex = b) := by
  obtain ⟨j, rfl⟩ : ∃ j, k = j + 1 := ⟨k - 1, by omega⟩
  match j, h with
  | 0, h => exact Or.inl ⟨rfl, (Option.some.inj h).symm⟩
  | 1, h => exact Or.inr ⟨rfl, (Option.some.inj h).symm⟩
  | j + 2, h => simp at h
theorem xC_three {k : Nat} {a b c Ex : String} (h0 : 0 < k) (h : [a, b, c][k - 1]? = some Ex) : (k = 1 ∧ Ex = a) ∨ (k = 2 ∧ Ex = b) ∨ (k = 3 ∧ Ex = c) := by
  obtain ⟨j, rfl⟩ : ∃ j, k = j + 1 := ⟨k - 1, by omega⟩
  match j, h with
  | 0, h => exact Or.inl ⟨rfl, (Option.some.inj h).symm⟩
  | 1, h => exact Or.inr (Or.inl ⟨rfl, (Option.some.inj h).symm⟩)
  | 2, h => exact Or.inr (Or.inr ⟨rfl, (Option.some.inj h).symm⟩)
  | j + 3, h => simp at h
section C76a
variable {E : xEnv} {l : Launch}
theorem V_csH {Y Y' : xY} {Q : xQ} {q : xS} {cs : Nat × Nat} {pc : Nat} {ls : List (Option Value)} {P : xP} {idx : Nat} {As rest : List Value} (hk : Cond.methodLink Y.1.cls idx Y'.1 ∈ xTT) (ht : Y'.2.2.2.2.2 ≠ []) (hcw : Cond.codeWith Y'.1 Y'.2.1 Y'.2.2.1 Y'.2.2.2.1 Y'.2.2.2.2.2 ∈ xTT) (hin : Cond.initialized Y'.1.cls ∈ xTT)
    (hn : Y'.1.cls ≠ "java/lang/invoke/MethodHandle" ∧ Y'.1.cls ≠ "java/lang/invoke/VarHandle" ∧ (parseMethodDescriptor Y'.1.desc).map (fun d => d.parameters.length) = some As.length) (hst : Cond.static Y'.1 ∈ xTT)
    (d : decode Y.2.1 pc = .ok (.invokestatic idx, 3)) (con : Con E l Y' As q P xF) (fit : xFit Y Y' cs) (hW : (rest.map fun v => v.category).sum ≤ 8)
    (kk : ∀ o q', P o q' → V E l Y Q q' (cs.1 + Y'.2.2.2.2.1.cells, cs.2 + Y'.2.2.2.2.1.slots) (pc + 3) ls (o.toList ++ rest)) : V E l Y Q q cs pc ls (As.reverse ++ rest) := by
  intro p e s m args below meth cc C H locs lc hl hR hS
  obtain ⟨hx, hb, hml, hr, hlk, hnm, hown, hts, hKn, htab⟩ := id C
  have S : CallFix p m cc Y.2.1 Y.2.2.1 s args xTT Y.1.cls := ⟨hx, hb, hml, hown, hts⟩
  have ew : xws Y' = Cond.codeWith Y'.1 Y'.2.1 Y'.2.2.1 Y'.2.2.2.1 Y'.2.2.2.2.2 :: xTT := by unfold xws xhd; rw [if_neg ht]
  have hws : ∀ w ∈ xws Y', ∀ (a' : Array Value) (U : State), s.WarmedH U.vm → w.before a' U = true := by
    intro w hw a' U hW
    rw [ew] at hw
    rcases List.mem_cons.mp hw with rfl | hw
    · exact xTT_at hW hts _ hcw
    · exact xTT_at hW hts _ hw
  have hp : PreS s H (xPre E As q) (As.map (xv E)) := ⟨xPre.blind, fun U hU hW => ⟨rfl, hKn.go hS hU hW, by rw [hU]; exact hR⟩⟩
  have hW' : 2 * (F0 m pc lc []).monitorRoom + ((rest.map (xv E)).map fun v => v.category).sum ≤ 8 := by rw [xcat]; show 2 * 0 + _ ≤ 8; omega
  have fin : ∀ (o : Option Value) (q' : xS) (H1 : Heap) (locs1 : List Loc), P o q' → xRel E q' H1 → va_S (xA E) s.heap H1 locs1 → W p l e Y.2.2.2.2.1 s m args below meth cc H1 locs1 (cs.1 + Y'.2.2.2.2.1.cells) (cs.2 + Y'.2.2.2.2.1.slots) (Q s args below) (F0 m (pc + 3) lc ((o.map (xv E)).toList ++ rest.map (xv E))) := by
    intro o q' H1 locs1 hP hR1 hS1
    have := kk o q' hP p e s m args below meth cc C H1 locs1 lc hl hR1 hS1
    rw [List.map_append] at this
    cases o <;> exact this
  have es : (As.reverse ++ rest).map (xv E) = (As.map (xv E)).reverse ++ rest.map (xv E) := by simp
  rw [es]
  have hlen : ∀ sig, parseMethodDescriptor Y'.1.desc = some sig → As.length = sig.parameters.length := fun sig h => by
    have h2 := hn.2.2
    rw [h] at h2
    exact (Option.some.inj h2).symm
  exact xcall (vx_runSW (n := As.length) S con.met ⟨⟨rfl, rfl, fit.1, fit.2.1, hws, by rw [ew]; exact List.mem_cons_self⟩, hts _ hcw, hts _ hin, ⟨hn.1, hn.2.1⟩, hlen, hts _ hk, hts _ hst⟩ hp rfl (by simp) hl.1 rfl hW' d fit.2.2) hS fin
end C76a
abbrev cIx : Int64 := -9000000000000000001
abbrev cAr : Int64 := -9000000000000000002
abbrev cSt : Int64 := -9000000000000000003
/-- what a wrapped call answers: its code tells which throw was caught *-/
def lC (k : Nat) (A a b c : Int64) : Int64 := if k = 0 then A else if k = 1 then a else if k = 2 then b else c
/-- a wrapped call that changes what is told -/
def xJV (v : Value) (S' : xSp) (o n : Nat) (K : xKnd) (G : xRef) (M : xMem) (L : xLng) : xP := fun r q' => r = some v ∧ ∃ M' L', q' = (false, n, K, G, M', L') ∧ CRel M' L' o S' ∧ Fr o M L M' L'
abbrev xJ (v : Int64) (S' : xSp) (o n : Nat) (K : xKnd) (G : xRef) (M : xMem) (L : xLng) : xP := xJV (.long v) S' o n K G M L
theorem lC_0 {k : Nat} {A a b c : Int64} (h : k = 0) : lC k A a b c = A := by unfold lC; rw [if_pos h]
theorem lC_1 {k : Nat} {A a b c : Int64} (h : k = 1) : lC k A a b c = a := by subst h; rfl
theorem lC_2 {k : Nat} {A a b c : Int64} (h : k = 2) : lC k A a b c = b := by subst h; rfl
theorem lC_3 {k : Nat} {A a b c : Int64} (h : k = 3) : lC k A a b c = c := by subst h; rfl
section P76
variable {K : xKnd} {G : xRef} {M M1 M2 : xMem} {L L1 L2 : xLng} {o n k : Nat} {S S' S2 : xSp} {A a b c : Int64}
theorem Fr.rfl' : Fr o M L M L := fun _ _ => ⟨fun _ => rfl, fun _ => rfl⟩
theorem xJ_t {x : Bool} (hk : k = 0) (hx : x = false) (c1 : CRel M1 L1 o S') (f1 : Fr o M L M1 L1) : xJ (lC k A a b c) (if k = 0 then S' else S) o n K G M L (some (.long A)) (x, n, K, G, M1, L1) :=
  ⟨by rw [lC_0 hk], M1, L1, by rw [hx], by rw [if_pos hk]; exact c1, f1⟩
theorem xJ_f {v : Int64} (hk : k = 1 ∨ k = 2 ∨ k = 3) (hv : lC k A a b c = v) (hc : CRel M L o S) : xJ (lC k A a b c) (if k = 0 then S' else S) o n K G M L (some (.long v)) (false, n, K, G, M, L) :=
  ⟨by rw [hv], M, L, rfl, by rw [if_neg (by omega)]; exact hc, Fr.rfl'⟩
/-- an object that a change leaves alone -/
theorem CRel.far (h : CRel M L o S) (hM : ∀ k i, o ≤ k → k ≤ o + 288 → M1 k i = M k i) (hL : ∀ k, o ≤ k → k ≤ o + 288 → L1 k 1 = L k 1) : CRel M1 L1 o S := by
  have hA : AlE M1 L1 (o + 3) S.2.2.1 := h.2.2.1.congr (fun k i h1 h2 => hM _ _ (by omega) (by omega)) (hL _ (by omega) (by omega))
  obtain ⟨c0, c1, c2, c3, ⟨nx, n1, n2, n3, n4, n5⟩, c5, c6, c7, c8⟩ := h
  refine ⟨?_, ?_, hA, ?_, ⟨nx, n1, ?_, ?_, n4, fun i hi => ?_⟩, ?_, ?_, fun q => ?_, fun q => ?_⟩
  · unfold iTx; rw [hM _ _ (by omega) (by omega)]; exact c0
  · intro i hi; rw [hM _ _ (by omega) (by omega)]; exact c1 i hi
  · exact c3.congr (fun k i h1 h2 => hM _ _ (by omega) (by omega)) (hL _ (by omega) (by omega))
  · rw [hM _ _ (by omega) (by omega)]; exact n2
  · rw [hM _ _ (by omega) (by omega)]; exact n3
  · have := kMi_lt n1 (i := i) (Nat.lt_of_lt_of_le hi n4)
    exact (n5 i hi).congr (fun k i h1 h2 => hM _ _ (by omega) (by omega)) (hL _ (by omega) (by omega))
  · rw [hM _ _ (by omega) (by omega)]; exact c5
  · rw [hM _ _ (by omega) (by omega)]; exact c6
  · exact (c7 q).congr (fun k i h1 h2 => hM _ _ (by omega) (by omega)) (hL _ (by omega) (by omega))
  · exact (c8 q).congr (fun k i h1 h2 => hM _ _ (by omega) (by omega)) (hL _ (by omega) (by omega))
theorem CRel.fr {o2 : Nat} (h : CRel M L o2 S) (f : Fr o M L M1 L1) (d : o2 + 288 < o ∨ o + 288 < o2) : CRel M1 L1 o2 S := h.far (fun k i h1 h2 => (f k (by omega)).1 i) (fun k h1 h2 => (f k (by omega)).2 1)
end P76
/-- an object of the law: what stands at o tells S -/
def OK (l : Launch) (n : Nat) (K : xKnd) (G : xRef) (M : xMem) (L : xLng) (o : Nat) (S : xSp) : Prop := l.stackTraces = false ∧ rX n K G o ∧ CRel M L o S ∧ ∃ T B, WFS S T B ∧ T ≤ 240000 ∧ B ≤ 400000000
section C76
variable {E : xEnv} {l : Launch} {n : Nat} {K : xKnd} {G : xRef} {M : xMem} {L : xLng} {o k : Nat} {S S' : xSp}
theorem c_L_load {A : Int32} (h : rX n K G o) (hc : CRel M L o S)  (con : Con E l Y_X5_load [.ref o] (false, n, K, G, M, L) (xG k (some (.int A)) S' o false n K G M L) (xC k nsS (false, n, K, G, M, L))) : Con E l Y_L_load [.ref o] (false, n, K, G, M, L) (xJ (lC k A.toInt64 cSt 0 0) (if k = 0 then S' else S) o n K G M L) xF := by
  obtain ⟨y1, y2, y3, r, y4, y5⟩ := cc_X5_load
  refine Con.mkH 1 mp_L_load (List.cons_ne_nil _ _) (ls := [some (.ref o), none]) rfl (Nat.le_of_ble_eq_true rfl) ?_
  refine V_ald0 dL_load_0 ?_
  refine V_try (Y' := Y_X5_load) (As := []) (rest := []) ml_L_23 y1 y2 y3 y4 y5 dL_load_1 h.1 con (xFit.mk (by decide) (by decide) (by decide) (by decide)) (Nat.le_of_ble_eq_true rfl) (fun Ex q9 hq9 => ?_) (fun o9 q9 hq9 => ?_)
  · obtain ⟨rfl, hk1, hn9⟩ := hq9
    rcases xC_one hk1 hn9 with ⟨hk2, rfl⟩
    · refine VX_catch [] ⟨0, 5, 6, 19⟩ [] rfl (fun z hz => absurd hz List.not_mem_nil) rfl (by decide) mq_L_19 mz_ise dL_load_6 (by decide) ?_
      show V E l _ _ _ (1, 6) 7 [] []
      refine V_ldc2 dL_load_7 mk_L_21 ?_
      exact V_lret rfl dL_load_10 (by decide) (by decide) (xJ_f (Or.inl hk2) (lC_1 hk2) hc)
  · obtain ⟨hk0, rfl, M1, L1, rfl, c1, f1⟩ := hq9
    show V E l _ _ _ (1, 6) 4 _ [.int A]
    refine V_i2l dL_load_4 ?_
    exact V_lret rfl dL_load_5 (by decide) (by decide) (xJ_t hk0 rfl c1 f1)
theorem c_L_save {A : Int32} (h : rX n K G o) (hc : CRel M L o S) (p0 : Int32) (con : Con E l Y_X5_save [.ref o, .int p0] (false, n, K, G, M, L) (xG k (some (.int A)) S' o false n K G M L) (xC k nsI (false, n, K, G, M, L))) : Con E l Y_L_save [.ref o, .int p0] (false, n, K, G, M, L) (xJ (lC k A.toInt64 cIx 0 0) (if k = 0 then S' else S) o n K G M L) xF := by
  obtain ⟨y1, y2, y3, r, y4, y5⟩ := cc_X5_save
  refine Con.mkH 1 mp_L_save (List.cons_ne_nil _ _) (ls := [some (.ref o), some (.int p0), none]) rfl (Nat.le_of_ble_eq_true rfl) ?_
  refine V_ald0 dL_save_0 ?_
  refine V_ild1 dL_save_1 ?_
  refine V_try (Y' := Y_X5_save) (As := [.int p0]) (rest := []) ml_L_96 y1 y2 y3 y4 y5 dL_save_2 h.1 con (xFit.mk (by decide) (by decide) (by decide) (by decide)) (Nat.le_of_ble_eq_true rfl) (fun Ex q9 hq9 => ?_) (fun o9 q9 hq9 => ?_)
  · obtain ⟨rfl, hk1, hn9⟩ := hq9
    rcases xC_one hk1 hn9 with ⟨hk2, rfl⟩
    · refine VX_catch [] ⟨0, 6, 7, 37⟩ [] rfl (fun z hz => absurd hz List.not_mem_nil) rfl (by decide) mq_L_37 mz_ioobe dL_save_7 (by decide) ?_
      show V E l _ _ _ (1, 6) 8 [] []
      refine V_ldc2 dL_save_8 mk_L_39 ?_
      exact V_lret rfl dL_save_11 (by decide) (by decide) (xJ_f (Or.inl hk2) (lC_1 hk2) hc)
  · obtain ⟨hk0, rfl, M1, L1, rfl, c1, f1⟩ := hq9
    show V E l _ _ _ (1, 6) 5 _ [.int A]
    refine V_i2l dL_save_5 ?_
    exact V_lret rfl dL_save_6 (by decide) (by decide) (xJ_t hk0 rfl c1 f1)
theorem c_L_restore {A : Int32} (h : rX n K G o) (hc : CRel M L o S) (p0 : Int32) (con : Con E l Y_X5_restore [.ref o, .int p0] (false, n, K, G, M, L) (xG k (some (.int A)) S' o false n K G M L) (xC k nsIS (false, n, K, G, M, L))) : Con E l Y_L_restore [.ref o, .int p0] (false, n, K, G, M, L) (xJ (lC k A.toInt64 cIx cSt 0) (if k = 0 then S' else S) o n K G M L) xF := by
  obtain ⟨y1, y2, y3, r, y4, y5⟩ := cc_X5_restore
  refine Con.mkH 1 mp_L_restore (List.cons_ne_nil _ _) (ls := [some (.ref o), some (.int p0), none]) rfl (Nat.le_of_ble_eq_true rfl) ?_
  refine V_ald0 dL_restore_0 ?_
  refine V_ild1 dL_restore_1 ?_
  refine V_try (Y' := Y_X5_restore) (As := [.int p0]) (rest := []) ml_L_99 y1 y2 y3 y4 y5 dL_restore_2 h.1 con (xFit.mk (by decide) (by decide) (by decide) (by decide)) (Nat.le_of_ble_eq_true rfl) (fun Ex q9 hq9 => ?_) (fun o9 q9 hq9 => ?_)
  · obtain ⟨rfl, hk1, hn9⟩ := hq9
    rcases xC_two hk1 hn9 with ⟨hk2, rfl⟩ | ⟨hk2, rfl⟩
    · refine VX_catch [] ⟨0, 6, 7, 37⟩ [⟨0, 6, 12, 19⟩] rfl (fun z hz => absurd hz List.not_mem_nil) rfl (by decide) mq_L_37 mz_ioobe dL_restore_7 (by decide) ?_
      show V E l _ _ _ (1, 6) 8 [] []
      refine V_ldc2 dL_restore_8 mk_L_39 ?_
      exact V_lret rfl dL_restore_11 (by decide) (by decide) (xJ_f (Or.inl hk2) (lC_1 hk2) hc)
    · refine VX_catch [⟨0, 6, 7, 37⟩] ⟨0, 6, 12, 19⟩ [] rfl (fun z hz => by rcases List.mem_singleton.mp hz with rfl; exact Or.inr ⟨by decide, _, mq_L_37, fun s h9 => by obtain ⟨-, -, -, -, -, -, -, -, -, -, -, n1, n2, n3⟩ := h9; exact n3⟩) rfl (by decide) mq_L_19 mz_ise dL_restore_12 (by decide) ?_
      show V E l _ _ _ (1, 6) 13 [] []
      refine V_ldc2 dL_restore_13 mk_L_21 ?_
      exact V_lret rfl dL_restore_16 (by decide) (by decide) (xJ_f (Or.inr (Or.inl hk2)) (lC_2 hk2) hc)
  · obtain ⟨hk0, rfl, M1, L1, rfl, c1, f1⟩ := hq9
    show V E l _ _ _ (1, 6) 5 _ [.int A]
    refine V_i2l dL_restore_5 ?_
    exact V_lret rfl dL_restore_6 (by decide) (by decide) (xJ_t hk0 rfl c1 f1)
theorem c_L_about {A : Int32} (h : rX n K G o) (p0 : Int32) (con : Con E l Y_X5_about [.ref o, .int p0] (false, n, K, G, M, L) (xW k (.int A) (false, n, K, G, M, L)) (xC k nsA (false, n, K, G, M, L))) : Con E l Y_L_about [.ref o, .int p0] (false, n, K, G, M, L) (xR (some (.long (lC k A.toInt64 cAr 0 0))) (false, n, K, G, M, L)) xF := by
  obtain ⟨y1, y2, y3, r, y4, y5⟩ := cc_X5_about
  refine Con.mkH 1 mp_L_about (List.cons_ne_nil _ _) (ls := [some (.ref o), some (.int p0), none]) rfl (Nat.le_of_ble_eq_true rfl) ?_
  refine V_ald0 dL_about_0 ?_
  refine V_ild1 dL_about_1 ?_
  refine V_try (Y' := Y_X5_about) (As := [.int p0]) (rest := []) ml_L_27 y1 y2 y3 y4 y5 dL_about_2 h.1 con (xFit.mk (by decide) (by decide) (by decide) (by decide)) (Nat.le_of_ble_eq_true rfl) (fun Ex q9 hq9 => ?_) (fun o9 q9 hq9 => ?_)
  · obtain ⟨rfl, hk1, hn9⟩ := hq9
    rcases xC_one hk1 hn9 with ⟨hk2, rfl⟩
    · refine VX_catch [] ⟨0, 6, 7, 15⟩ [] rfl (fun z hz => absurd hz List.not_mem_nil) rfl (by decide) mq_L_15 mz_iae dL_about_7 (by decide) ?_
      show V E l _ _ _ (1, 6) 8 [] []
      refine V_ldc2 dL_about_8 mk_L_17 ?_
      exact V_lret rfl dL_about_11 (by decide) (by decide) ⟨by rw [lC_1 hk2], rfl⟩
  · obtain ⟨hk0, rfl, rfl⟩ := hq9
    show V E l _ _ _ (1, 6) 5 _ [.int A]
    refine V_i2l dL_about_5 ?_
    exact V_lret rfl dL_about_6 (by decide) (by decide) ⟨by rw [lC_0 hk0], rfl⟩
theorem c_L_setting {A : Int32} (h : rX n K G o) (p0 : Int32) (con : Con E l Y_X5_setting [.ref o, .int p0] (false, n, K, G, M, L) (xW k (.int A) (false, n, K, G, M, L)) (xC k nsA (false, n, K, G, M, L))) : Con E l Y_L_setting [.ref o, .int p0] (false, n, K, G, M, L) (xR (some (.long (lC k A.toInt64 cAr 0 0))) (false, n, K, G, M, L)) xF := by
  obtain ⟨y1, y2, y3, r, y4, y5⟩ := cc_X5_setting
  refine Con.mkH 1 mp_L_setting (List.cons_ne_nil _ _) (ls := [some (.ref o), some (.int p0), none]) rfl (Nat.le_of_ble_eq_true rfl) ?_
  refine V_ald0 dL_setting_0 ?_
  refine V_ild1 dL_setting_1 ?_
  refine V_try (Y' := Y_X5_setting) (As := [.int p0]) (rest := []) ml_L_30 y1 y2 y3 y4 y5 dL_setting_2 h.1 con (xFit.mk (by decide) (by decide) (by decide) (by decide)) (Nat.le_of_ble_eq_true rfl) (fun Ex q9 hq9 => ?_) (fun o9 q9 hq9 => ?_)
  · obtain ⟨rfl, hk1, hn9⟩ := hq9
    rcases xC_one hk1 hn9 with ⟨hk2, rfl⟩
    · refine VX_catch [] ⟨0, 6, 7, 15⟩ [] rfl (fun z hz => absurd hz List.not_mem_nil) rfl (by decide) mq_L_15 mz_iae dL_setting_7 (by decide) ?_
      show V E l _ _ _ (1, 6) 8 [] []
      refine V_ldc2 dL_setting_8 mk_L_17 ?_
      exact V_lret rfl dL_setting_11 (by decide) (by decide) ⟨by rw [lC_1 hk2], rfl⟩
  · obtain ⟨hk0, rfl, rfl⟩ := hq9
    show V E l _ _ _ (1, 6) 5 _ [.int A]
    refine V_i2l dL_setting_5 ?_
    exact V_lret rfl dL_setting_6 (by decide) (by decide) ⟨by rw [lC_0 hk0], rfl⟩
theorem c_L_bin {A : Int32} (h : rX n K G o) (p0 : Int32) (p1 : Int32) (con : Con E l Y_X5_bin [.ref o, .int p0, .int p1] (false, n, K, G, M, L) (xW k (.int A) (false, n, K, G, M, L)) (xC k nsIA (false, n, K, G, M, L))) : Con E l Y_L_bin [.ref o, .int p0, .int p1] (false, n, K, G, M, L) (xR (some (.long (lC k A.toInt64 cIx cAr 0))) (false, n, K, G, M, L)) xF := by
  obtain ⟨y1, y2, y3, r, y4, y5⟩ := cc_X5_bin
  refine Con.mkH 1 mp_L_bin (List.cons_ne_nil _ _) (ls := [some (.ref o), some (.int p0), some (.int p1), none]) rfl (Nat.le_of_ble_eq_true rfl) ?_
  refine V_ald0 dL_bin_0 ?_
  refine V_ild1 dL_bin_1 ?_
  refine V_ild2 dL_bin_2 ?_
  refine V_try (Y' := Y_X5_bin) (As := [.int p0, .int p1]) (rest := []) ml_L_33 y1 y2 y3 y4 y5 dL_bin_3 h.1 con (xFit.mk (by decide) (by decide) (by decide) (by decide)) (Nat.le_of_ble_eq_true rfl) (fun Ex q9 hq9 => ?_) (fun o9 q9 hq9 => ?_)
  · obtain ⟨rfl, hk1, hn9⟩ := hq9
    rcases xC_two hk1 hn9 with ⟨hk2, rfl⟩ | ⟨hk2, rfl⟩
    · refine VX_catch [] ⟨0, 7, 8, 37⟩ [⟨0, 7, 13, 15⟩] rfl (fun z hz => absurd hz List.not_mem_nil) rfl (by decide) mq_L_37 mz_ioobe dL_bin_8 (by decide) ?_
      show V E l _ _ _ (1, 6) 9 [] []
      refine V_ldc2 dL_bin_9 mk_L_39 ?_
      exact V_lret rfl dL_bin_12 (by decide) (by decide) ⟨by rw [lC_1 hk2], rfl⟩
    · refine VX_catch [⟨0, 7, 8, 37⟩] ⟨0, 7, 13, 15⟩ [] rfl (fun z hz => by rcases List.mem_singleton.mp hz with rfl; exact Or.inr ⟨by decide, _, mq_L_37, fun s h9 => by obtain ⟨-, -, -, -, -, -, -, -, -, -, -, n1, n2, n3⟩ := h9; exact n2⟩) rfl (by decide) mq_L_15 mz_iae dL_bin_13 (by decide) ?_
      show V E l _ _ _ (1, 6) 14 [] []
      refine V_ldc2 dL_bin_14 mk_L_17 ?_
      exact V_lret rfl dL_bin_17 (by decide) (by decide) ⟨by rw [lC_2 hk2], rfl⟩
  · obtain ⟨hk0, rfl, rfl⟩ := hq9
    show V E l _ _ _ (1, 6) 6 _ [.int A]
    refine V_i2l dL_bin_6 ?_
    exact V_lret rfl dL_bin_7 (by decide) (by decide) ⟨by rw [lC_0 hk0], rfl⟩
theorem c_L_pulse {A : Int32} (h : rX n K G o) (p0 : Int32) (con : Con E l Y_X5_pulse [.ref o, .int p0] (false, n, K, G, M, L) (xW k (.int A) (false, n, K, G, M, L)) (xC k nsA (false, n, K, G, M, L))) : Con E l Y_L_pulse [.ref o, .int p0] (false, n, K, G, M, L) (xR (some (.long (lC k A.toInt64 cAr 0 0))) (false, n, K, G, M, L)) xF := by
  obtain ⟨y1, y2, y3, r, y4, y5⟩ := cc_X5_pulse
  refine Con.mkH 1 mp_L_pulse (List.cons_ne_nil _ _) (ls := [some (.ref o), some (.int p0), none]) rfl (Nat.le_of_ble_eq_true rfl) ?_
  refine V_ald0 dL_pulse_0 ?_
  refine V_ild1 dL_pulse_1 ?_
  refine V_try (Y' := Y_X5_pulse) (As := [.int p0]) (rest := []) ml_L_41 y1 y2 y3 y4 y5 dL_pulse_2 h.1 con (xFit.mk (by decide) (by decide) (by decide) (by decide)) (Nat.le_of_ble_eq_true rfl) (fun Ex q9 hq9 => ?_) (fun o9 q9 hq9 => ?_)
  · obtain ⟨rfl, hk1, hn9⟩ := hq9
    rcases xC_one hk1 hn9 with ⟨hk2, rfl⟩
    · refine VX_catch [] ⟨0, 6, 7, 15⟩ [] rfl (fun z hz => absurd hz List.not_mem_nil) rfl (by decide) mq_L_15 mz_iae dL_pulse_7 (by decide) ?_
      show V E l _ _ _ (1, 6) 8 [] []
      refine V_ldc2 dL_pulse_8 mk_L_17 ?_
      exact V_lret rfl dL_pulse_11 (by decide) (by decide) ⟨by rw [lC_1 hk2], rfl⟩
  · obtain ⟨hk0, rfl, rfl⟩ := hq9
    show V E l _ _ _ (1, 6) 5 _ [.int A]
    refine V_i2l dL_pulse_5 ?_
    exact V_lret rfl dL_pulse_6 (by decide) (by decide) ⟨by rw [lC_0 hk0], rfl⟩
theorem c_L_fate {A : Int32} (h : rX n K G o) (p0 : Int32) (con : Con E l Y_X5_fate [.ref o, .int p0] (false, n, K, G, M, L) (xW k (.int A) (false, n, K, G, M, L)) (xC k nsA (false, n, K, G, M, L))) : Con E l Y_L_fate [.ref o, .int p0] (false, n, K, G, M, L) (xR (some (.long (lC k A.toInt64 cAr 0 0))) (false, n, K, G, M, L)) xF := by
  obtain ⟨y1, y2, y3, r, y4, y5⟩ := cc_X5_fate
  refine Con.mkH 1 mp_L_fate (List.cons_ne_nil _ _) (ls := [some (.ref o), some (.int p0), none]) rfl (Nat.le_of_ble_eq_true rfl) ?_
  refine V_ald0 dL_fate_0 ?_
  refine V_ild1 dL_fate_1 ?_
  refine V_try (Y' := Y_X5_fate) (As := [.int p0]) (rest := []) ml_L_44 y1 y2 y3 y4 y5 dL_fate_2 h.1 con (xFit.mk (by decide) (by decide) (by decide) (by decide)) (Nat.le_of_ble_eq_true rfl) (fun Ex q9 hq9 => ?_) (fun o9 q9 hq9 => ?_)
  · obtain ⟨rfl, hk1, hn9⟩ := hq9
    rcases xC_one hk1 hn9 with ⟨hk2, rfl⟩
    · refine VX_catch [] ⟨0, 6, 7, 15⟩ [] rfl (fun z hz => absurd hz List.not_mem_nil) rfl (by decide) mq_L_15 mz_iae dL_fate_7 (by decide) ?_
      show V E l _ _ _ (1, 6) 8 [] []
      refine V_ldc2 dL_fate_8 mk_L_17 ?_
      exact V_lret rfl dL_fate_11 (by decide) (by decide) ⟨by rw [lC_1 hk2], rfl⟩
  · obtain ⟨hk0, rfl, rfl⟩ := hq9
    show V E l _ _ _ (1, 6) 5 _ [.int A]
    refine V_i2l dL_fate_5 ?_
    exact V_lret rfl dL_fate_6 (by decide) (by decide) ⟨by rw [lC_0 hk0], rfl⟩
theorem c_L_longest {A : Int32} (h : rX n K G o) (p0 : Int32) (con : Con E l Y_X5_longest [.ref o, .int p0] (false, n, K, G, M, L) (xW k (.int A) (false, n, K, G, M, L)) (xC k nsA (false, n, K, G, M, L))) : Con E l Y_L_longest [.ref o, .int p0] (false, n, K, G, M, L) (xR (some (.long (lC k A.toInt64 cAr 0 0))) (false, n, K, G, M, L)) xF := by
  obtain ⟨y1, y2, y3, r, y4, y5⟩ := cc_X5_longest
  refine Con.mkH 1 mp_L_longest (List.cons_ne_nil _ _) (ls := [some (.ref o), some (.int p0), none]) rfl (Nat.le_of_ble_eq_true rfl) ?_
  refine V_ald0 dL_longest_0 ?_
  refine V_ild1 dL_longest_1 ?_
  refine V_try (Y' := Y_X5_longest) (As := [.int p0]) (rest := []) ml_L_47 y1 y2 y3 y4 y5 dL_longest_2 h.1 con (xFit.mk (by decide) (by decide) (by decide) (by decide)) (Nat.le_of_ble_eq_true rfl) (fun Ex q9 hq9 => ?_) (fun o9 q9 hq9 => ?_)
  · obtain ⟨rfl, hk1, hn9⟩ := hq9
    rcases xC_one hk1 hn9 with ⟨hk2, rfl⟩
    · refine VX_catch [] ⟨0, 6, 7, 15⟩ [] rfl (fun z hz => absurd hz List.not_mem_nil) rfl (by decide) mq_L_15 mz_iae dL_longest_7 (by decide) ?_
      show V E l _ _ _ (1, 6) 8 [] []
      refine V_ldc2 dL_longest_8 mk_L_17 ?_
      exact V_lret rfl dL_longest_11 (by decide) (by decide) ⟨by rw [lC_1 hk2], rfl⟩
  · obtain ⟨hk0, rfl, rfl⟩ := hq9
    show V E l _ _ _ (1, 6) 5 _ [.int A]
    refine V_i2l dL_longest_5 ?_
    exact V_lret rfl dL_longest_6 (by decide) (by decide) ⟨by rw [lC_0 hk0], rfl⟩
theorem c_L_pattern {A : Int32} (h : rX n K G o) (p0 : Int32) (p1 : Int32) (con : Con E l Y_X5_pattern [.ref o, .int p0, .int p1] (false, n, K, G, M, L) (xW k (.int A) (false, n, K, G, M, L)) (xC k nsA (false, n, K, G, M, L))) : Con E l Y_L_pattern [.ref o, .int p0, .int p1] (false, n, K, G, M, L) (xR (some (.long (lC k A.toInt64 cAr 0 0))) (false, n, K, G, M, L)) xF := by
  obtain ⟨y1, y2, y3, r, y4, y5⟩ := cc_X5_pattern
  refine Con.mkH 1 mp_L_pattern (List.cons_ne_nil _ _) (ls := [some (.ref o), some (.int p0), some (.int p1), none]) rfl (Nat.le_of_ble_eq_true rfl) ?_
  refine V_ald0 dL_pattern_0 ?_
  refine V_ild1 dL_pattern_1 ?_
  refine V_ild2 dL_pattern_2 ?_
  refine V_try (Y' := Y_X5_pattern) (As := [.int p0, .int p1]) (rest := []) ml_L_50 y1 y2 y3 y4 y5 dL_pattern_3 h.1 con (xFit.mk (by decide) (by decide) (by decide) (by decide)) (Nat.le_of_ble_eq_true rfl) (fun Ex q9 hq9 => ?_) (fun o9 q9 hq9 => ?_)
  · obtain ⟨rfl, hk1, hn9⟩ := hq9
    rcases xC_one hk1 hn9 with ⟨hk2, rfl⟩
    · refine VX_catch [] ⟨0, 7, 8, 15⟩ [] rfl (fun z hz => absurd hz List.not_mem_nil) rfl (by decide) mq_L_15 mz_iae dL_pattern_8 (by decide) ?_
      show V E l _ _ _ (1, 6) 9 [] []
      refine V_ldc2 dL_pattern_9 mk_L_17 ?_
      exact V_lret rfl dL_pattern_12 (by decide) (by decide) ⟨by rw [lC_1 hk2], rfl⟩
  · obtain ⟨hk0, rfl, rfl⟩ := hq9
    show V E l _ _ _ (1, 6) 6 _ [.int A]
    refine V_i2l dL_pattern_6 ?_
    exact V_lret rfl dL_pattern_7 (by decide) (by decide) ⟨by rw [lC_0 hk0], rfl⟩
theorem c_L_rain {A : Int64} (h : rX n K G o) (p0 : Int32) (con : Con E l Y_X5_rain [.ref o, .int p0] (false, n, K, G, M, L) (xW k (.long A) (false, n, K, G, M, L)) (xC k nsA (false, n, K, G, M, L))) : Con E l Y_L_rain [.ref o, .int p0] (false, n, K, G, M, L) (xR (some (.long (lC k A cAr 0 0))) (false, n, K, G, M, L)) xF := by
  obtain ⟨y1, y2, y3, r, y4, y5⟩ := cc_X5_rain
  refine Con.mkH 1 mp_L_rain (List.cons_ne_nil _ _) (ls := [some (.ref o), some (.int p0), none]) rfl (Nat.le_of_ble_eq_true rfl) ?_
  refine V_ald0 dL_rain_0 ?_
  refine V_ild1 dL_rain_1 ?_
  refine V_try (Y' := Y_X5_rain) (As := [.int p0]) (rest := []) ml_L_53 y1 y2 y3 y4 y5 dL_rain_2 h.1 con (xFit.mk (by decide) (by decide) (by decide) (by decide)) (Nat.le_of_ble_eq_true rfl) (fun Ex q9 hq9 => ?_) (fun o9 q9 hq9 => ?_)
  · obtain ⟨rfl, hk1, hn9⟩ := hq9
    rcases xC_one hk1 hn9 with ⟨hk2, rfl⟩
    · refine VX_catch [] ⟨0, 5, 6, 15⟩ [] rfl (fun z hz => absurd hz List.not_mem_nil) rfl (by decide) mq_L_15 mz_iae dL_rain_6 (by decide) ?_
      show V E l _ _ _ (1, 6) 7 [] []
      refine V_ldc2 dL_rain_7 mk_L_17 ?_
      exact V_lret rfl dL_rain_10 (by decide) (by decide) ⟨by rw [lC_1 hk2], rfl⟩
  · obtain ⟨hk0, rfl, rfl⟩ := hq9
    show V E l _ _ _ (1, 6) 5 _ [.long A]
    exact V_lret rfl dL_rain_5 (by decide) (by decide) ⟨by rw [lC_0 hk0], rfl⟩
theorem c_L_drop {A : Int32} (h : rX n K G o) (hc : CRel M L o S) (p0 : Int32) (p1 : Int32) (con : Con E l Y_X5_drop [.ref o, .int p0, .int p1] (false, n, K, G, M, L) (xG k (some (.int A)) S' o false n K G M L) (xC k nsA (false, n, K, G, M, L))) : Con E l Y_L_drop [.ref o, .int p0, .int p1] (false, n, K, G, M, L) (xJ (lC k A.toInt64 cAr 0 0) (if k = 0 then S' else S) o n K G M L) xF := by
  obtain ⟨y1, y2, y3, r, y4, y5⟩ := cc_X5_drop
  refine Con.mkH 1 mp_L_drop (List.cons_ne_nil _ _) (ls := [some (.ref o), some (.int p0), some (.int p1), none]) rfl (Nat.le_of_ble_eq_true rfl) ?_
  refine V_ald0 dL_drop_0 ?_
  refine V_ild1 dL_drop_1 ?_
  refine V_ild2 dL_drop_2 ?_
  refine V_try (Y' := Y_X5_drop) (As := [.int p0, .int p1]) (rest := []) ml_L_57 y1 y2 y3 y4 y5 dL_drop_3 h.1 con (xFit.mk (by decide) (by decide) (by decide) (by decide)) (Nat.le_of_ble_eq_true rfl) (fun Ex q9 hq9 => ?_) (fun o9 q9 hq9 => ?_)
  · obtain ⟨rfl, hk1, hn9⟩ := hq9
    rcases xC_one hk1 hn9 with ⟨hk2, rfl⟩
    · refine VX_catch [] ⟨0, 7, 8, 15⟩ [] rfl (fun z hz => absurd hz List.not_mem_nil) rfl (by decide) mq_L_15 mz_iae dL_drop_8 (by decide) ?_
      show V E l _ _ _ (1, 6) 9 [] []
      refine V_ldc2 dL_drop_9 mk_L_17 ?_
      exact V_lret rfl dL_drop_12 (by decide) (by decide) (xJ_f (Or.inl hk2) (lC_1 hk2) hc)
  · obtain ⟨hk0, rfl, M1, L1, rfl, c1, f1⟩ := hq9
    show V E l _ _ _ (1, 6) 6 _ [.int A]
    refine V_i2l dL_drop_6 ?_
    exact V_lret rfl dL_drop_7 (by decide) (by decide) (xJ_t hk0 rfl c1 f1)
theorem c_L_pass {A : Int32} (h : rX n K G o) (hc : CRel M L o S) (p0 : Int32) (con : Con E l Y_X5_pass [.ref o, .int p0] (false, n, K, G, M, L) (xG k (some (.int A)) S' o false n K G M L) (xC k nsA (false, n, K, G, M, L))) : Con E l Y_L_pass [.ref o, .int p0] (false, n, K, G, M, L) (xJ (lC k A.toInt64 cAr 0 0) (if k = 0 then S' else S) o n K G M L) xF := by
  obtain ⟨y1, y2, y3, r, y4, y5⟩ := cc_X5_pass
  refine Con.mkH 1 mp_L_pass (List.cons_ne_nil _ _) (ls := [some (.ref o), some (.int p0), none]) rfl (Nat.le_of_ble_eq_true rfl) ?_
  refine V_ald0 dL_pass_0 ?_
  refine V_ild1 dL_pass_1 ?_
  refine V_try (Y' := Y_X5_pass) (As := [.int p0]) (rest := []) ml_L_60 y1 y2 y3 y4 y5 dL_pass_2 h.1 con (xFit.mk (by decide) (by decide) (by decide) (by decide)) (Nat.le_of_ble_eq_true rfl) (fun Ex q9 hq9 => ?_) (fun o9 q9 hq9 => ?_)
  · obtain ⟨rfl, hk1, hn9⟩ := hq9
    rcases xC_one hk1 hn9 with ⟨hk2, rfl⟩
    · refine VX_catch [] ⟨0, 6, 7, 15⟩ [] rfl (fun z hz => absurd hz List.not_mem_nil) rfl (by decide) mq_L_15 mz_iae dL_pass_7 (by decide) ?_
      show V E l _ _ _ (1, 6) 8 [] []
      refine V_ldc2 dL_pass_8 mk_L_17 ?_
      exact V_lret rfl dL_pass_11 (by decide) (by decide) (xJ_f (Or.inl hk2) (lC_1 hk2) hc)
  · obtain ⟨hk0, rfl, M1, L1, rfl, c1, f1⟩ := hq9
    show V E l _ _ _ (1, 6) 5 _ [.int A]
    refine V_i2l dL_pass_5 ?_
    exact V_lret rfl dL_pass_6 (by decide) (by decide) (xJ_t hk0 rfl c1 f1)
theorem c_L_set {A : Int32} (h : rX n K G o) (hc : CRel M L o S) (p0 : Int32) (p1 : Int32) (con : Con E l Y_X5_set [.ref o, .int p0, .int p1] (false, n, K, G, M, L) (xG k (some (.int A)) S' o false n K G M L) (xC k nsA (false, n, K, G, M, L))) : Con E l Y_L_set [.ref o, .int p0, .int p1] (false, n, K, G, M, L) (xJ (lC k A.toInt64 cAr 0 0) (if k = 0 then S' else S) o n K G M L) xF := by
  obtain ⟨y1, y2, y3, r, y4, y5⟩ := cc_X5_set
  refine Con.mkH 1 mp_L_set (List.cons_ne_nil _ _) (ls := [some (.ref o), some (.int p0), some (.int p1), none]) rfl (Nat.le_of_ble_eq_true rfl) ?_
  refine V_ald0 dL_set_0 ?_
  refine V_ild1 dL_set_1 ?_
  refine V_ild2 dL_set_2 ?_
  refine V_try (Y' := Y_X5_set) (As := [.int p0, .int p1]) (rest := []) ml_L_63 y1 y2 y3 y4 y5 dL_set_3 h.1 con (xFit.mk (by decide) (by decide) (by decide) (by decide)) (Nat.le_of_ble_eq_true rfl) (fun Ex q9 hq9 => ?_) (fun o9 q9 hq9 => ?_)
  · obtain ⟨rfl, hk1, hn9⟩ := hq9
    rcases xC_one hk1 hn9 with ⟨hk2, rfl⟩
    · refine VX_catch [] ⟨0, 7, 8, 15⟩ [] rfl (fun z hz => absurd hz List.not_mem_nil) rfl (by decide) mq_L_15 mz_iae dL_set_8 (by decide) ?_
      show V E l _ _ _ (1, 6) 9 [] []
      refine V_ldc2 dL_set_9 mk_L_17 ?_
      exact V_lret rfl dL_set_12 (by decide) (by decide) (xJ_f (Or.inl hk2) (lC_1 hk2) hc)
  · obtain ⟨hk0, rfl, M1, L1, rfl, c1, f1⟩ := hq9
    show V E l _ _ _ (1, 6) 6 _ [.int A]
    refine V_i2l dL_set_6 ?_
    exact V_lret rfl dL_set_7 (by decide) (by decide) (xJ_t hk0 rfl c1 f1)
theorem c_L_setBorder {A : Int32} (h : rX n K G o) (hc : CRel M L o S) (p0 : Int32) (p1 : Int32) (con : Con E l Y_X5_setBorder [.ref o, .int p0, .int p1] (false, n, K, G, M, L) (xG k (some (.int A)) S' o false n K G M L) (xC k nsIAS (false, n, K, G, M, L))) : Con E l Y_L_setBorder [.ref o, .int p0, .int p1] (false, n, K, G, M, L) (xJ (lC k A.toInt64 cIx cAr cSt) (if k = 0 then S' else S) o n K G M L) xF := by
  obtain ⟨y1, y2, y3, r, y4, y5⟩ := cc_X5_setBorder
  refine Con.mkH 1 mp_L_setBorder (List.cons_ne_nil _ _) (ls := [some (.ref o), some (.int p0), some (.int p1), none]) rfl (Nat.le_of_ble_eq_true rfl) ?_
  refine V_ald0 dL_setBorder_0 ?_
  refine V_ild1 dL_setBorder_1 ?_
  refine V_ild2 dL_setBorder_2 ?_
  refine V_try (Y' := Y_X5_setBorder) (As := [.int p0, .int p1]) (rest := []) ml_L_66 y1 y2 y3 y4 y5 dL_setBorder_3 h.1 con (xFit.mk (by decide) (by decide) (by decide) (by decide)) (Nat.le_of_ble_eq_true rfl) (fun Ex q9 hq9 => ?_) (fun o9 q9 hq9 => ?_)
  · obtain ⟨rfl, hk1, hn9⟩ := hq9
    rcases xC_three hk1 hn9 with ⟨hk2, rfl⟩ | ⟨hk2, rfl⟩ | ⟨hk2, rfl⟩
    · refine VX_catch [] ⟨0, 7, 8, 37⟩ [⟨0, 7, 13, 15⟩, ⟨0, 7, 18, 19⟩] rfl (fun z hz => absurd hz List.not_mem_nil) rfl (by decide) mq_L_37 mz_ioobe dL_setBorder_8 (by decide) ?_
      show V E l _ _ _ (1, 6) 9 [] []
      refine V_ldc2 dL_setBorder_9 mk_L_39 ?_
      exact V_lret rfl dL_setBorder_12 (by decide) (by decide) (xJ_f (Or.inl hk2) (lC_1 hk2) hc)
    · refine VX_catch [⟨0, 7, 8, 37⟩] ⟨0, 7, 13, 15⟩ [⟨0, 7, 18, 19⟩] rfl (fun z hz => by rcases List.mem_singleton.mp hz with rfl; exact Or.inr ⟨by decide, _, mq_L_37, fun s h9 => by obtain ⟨-, -, -, -, -, -, -, -, -, -, -, n1, n2, n3⟩ := h9; exact n2⟩) rfl (by decide) mq_L_15 mz_iae dL_setBorder_13 (by decide) ?_
      show V E l _ _ _ (1, 6) 14 [] []
      refine V_ldc2 dL_setBorder_14 mk_L_17 ?_
      exact V_lret rfl dL_setBorder_17 (by decide) (by decide) (xJ_f (Or.inr (Or.inl hk2)) (lC_2 hk2) hc)
    · refine VX_catch [⟨0, 7, 8, 37⟩, ⟨0, 7, 13, 15⟩] ⟨0, 7, 18, 19⟩ [] rfl (fun z hz => by
        rcases List.mem_cons.mp hz with rfl | hz
        · exact Or.inr ⟨by decide, _, mq_L_37, fun s h9 => by obtain ⟨-, -, -, -, -, -, -, -, -, -, -, n1, n2, n3⟩ := h9; exact n3⟩
        · rcases List.mem_singleton.mp hz with rfl
          exact Or.inr ⟨by decide, _, mq_L_15, fun s h9 => by obtain ⟨-, -, -, -, -, -, -, -, -, -, -, n1, n2, n3⟩ := h9; exact n1⟩) rfl (by decide) mq_L_19 mz_ise dL_setBorder_18 (by decide) ?_
      show V E l _ _ _ (1, 6) 19 [] []
      refine V_ldc2 dL_setBorder_19 mk_L_21 ?_
      exact V_lret rfl dL_setBorder_22 (by decide) (by decide) (xJ_f (Or.inr (Or.inr hk2)) (lC_3 hk2) hc)
  · obtain ⟨hk0, rfl, M1, L1, rfl, c1, f1⟩ := hq9
    show V E l _ _ _ (1, 6) 6 _ [.int A]
    refine V_i2l dL_setBorder_6 ?_
    exact V_lret rfl dL_setBorder_7 (by decide) (by decide) (xJ_t hk0 rfl c1 f1)
theorem c_L_wouldBe {A : Int32} (h : rX n K G o) (p0 : Int32) (p1 : Int32) (con : Con E l Y_X5_wouldBe [.ref o, .int p0, .int p1] (false, n, K, G, M, L) (xW k (.int A) (false, n, K, G, M, L)) (xC k nsA (false, n, K, G, M, L))) : Con E l Y_L_wouldBe [.ref o, .int p0, .int p1] (false, n, K, G, M, L) (xR (some (.long (lC k A.toInt64 cAr 0 0))) (false, n, K, G, M, L)) xF := by
  obtain ⟨y1, y2, y3, r, y4, y5⟩ := cc_X5_wouldBe
  refine Con.mkH 1 mp_L_wouldBe (List.cons_ne_nil _ _) (ls := [some (.ref o), some (.int p0), some (.int p1), none]) rfl (Nat.le_of_ble_eq_true rfl) ?_
  refine V_ald0 dL_wouldBe_0 ?_
  refine V_ild1 dL_wouldBe_1 ?_
  refine V_ild2 dL_wouldBe_2 ?_
  refine V_try (Y' := Y_X5_wouldBe) (As := [.int p0, .int p1]) (rest := []) ml_L_72 y1 y2 y3 y4 y5 dL_wouldBe_3 h.1 con (xFit.mk (by decide) (by decide) (by decide) (by decide)) (Nat.le_of_ble_eq_true rfl) (fun Ex q9 hq9 => ?_) (fun o9 q9 hq9 => ?_)
  · obtain ⟨rfl, hk1, hn9⟩ := hq9
    rcases xC_one hk1 hn9 with ⟨hk2, rfl⟩
    · refine VX_catch [] ⟨0, 7, 8, 15⟩ [] rfl (fun z hz => absurd hz List.not_mem_nil) rfl (by decide) mq_L_15 mz_iae dL_wouldBe_8 (by decide) ?_
      show V E l _ _ _ (1, 6) 9 [] []
      refine V_ldc2 dL_wouldBe_9 mk_L_17 ?_
      exact V_lret rfl dL_wouldBe_12 (by decide) (by decide) ⟨by rw [lC_1 hk2], rfl⟩
  · obtain ⟨hk0, rfl, rfl⟩ := hq9
    show V E l _ _ _ (1, 6) 6 _ [.int A]
    refine V_i2l dL_wouldBe_6 ?_
    exact V_lret rfl dL_wouldBe_7 (by decide) (by decide) ⟨by rw [lC_0 hk0], rfl⟩
theorem c_L_leastSize {A : Int32} (h : rX n K G o) (p0 : Int32) (con : Con E l Y_X5_leastSize [.ref o, .int p0] (false, n, K, G, M, L) (xW k (.int A) (false, n, K, G, M, L)) (xC k nsA (false, n, K, G, M, L))) : Con E l Y_L_leastSize [.ref o, .int p0] (false, n, K, G, M, L) (xR (some (.long (lC k A.toInt64 cAr 0 0))) (false, n, K, G, M, L)) xF := by
  obtain ⟨y1, y2, y3, r, y4, y5⟩ := cc_X5_leastSize
  refine Con.mkH 1 mp_L_leastSize (List.cons_ne_nil _ _) (ls := [some (.ref o), some (.int p0), none]) rfl (Nat.le_of_ble_eq_true rfl) ?_
  refine V_ald0 dL_leastSize_0 ?_
  refine V_ild1 dL_leastSize_1 ?_
  refine V_try (Y' := Y_X5_leastSize) (As := [.int p0]) (rest := []) ml_L_75 y1 y2 y3 y4 y5 dL_leastSize_2 h.1 con (xFit.mk (by decide) (by decide) (by decide) (by decide)) (Nat.le_of_ble_eq_true rfl) (fun Ex q9 hq9 => ?_) (fun o9 q9 hq9 => ?_)
  · obtain ⟨rfl, hk1, hn9⟩ := hq9
    rcases xC_one hk1 hn9 with ⟨hk2, rfl⟩
    · refine VX_catch [] ⟨0, 6, 7, 15⟩ [] rfl (fun z hz => absurd hz List.not_mem_nil) rfl (by decide) mq_L_15 mz_iae dL_leastSize_7 (by decide) ?_
      show V E l _ _ _ (1, 6) 8 [] []
      refine V_ldc2 dL_leastSize_8 mk_L_17 ?_
      exact V_lret rfl dL_leastSize_11 (by decide) (by decide) ⟨by rw [lC_1 hk2], rfl⟩
  · obtain ⟨hk0, rfl, rfl⟩ := hq9
    show V E l _ _ _ (1, 6) 5 _ [.int A]
    refine V_i2l dL_leastSize_5 ?_
    exact V_lret rfl dL_leastSize_6 (by decide) (by decide) ⟨by rw [lC_0 hk0], rfl⟩
theorem c_L_quietIn {A : Int32} (h : rX n K G o) (p0 : Int32) (con : Con E l Y_X5_quietIn [.ref o, .int p0] (false, n, K, G, M, L) (xW k (.int A) (false, n, K, G, M, L)) (xC k nsA (false, n, K, G, M, L))) : Con E l Y_L_quietIn [.ref o, .int p0] (false, n, K, G, M, L) (xR (some (.long (lC k A.toInt64 cAr 0 0))) (false, n, K, G, M, L)) xF := by
  obtain ⟨y1, y2, y3, r, y4, y5⟩ := cc_X5_quietIn
  refine Con.mkH 1 mp_L_quietIn (List.cons_ne_nil _ _) (ls := [some (.ref o), some (.int p0), none]) rfl (Nat.le_of_ble_eq_true rfl) ?_
  refine V_ald0 dL_quietIn_0 ?_
  refine V_ild1 dL_quietIn_1 ?_
  refine V_try (Y' := Y_X5_quietIn) (As := [.int p0]) (rest := []) ml_L_78 y1 y2 y3 y4 y5 dL_quietIn_2 h.1 con (xFit.mk (by decide) (by decide) (by decide) (by decide)) (Nat.le_of_ble_eq_true rfl) (fun Ex q9 hq9 => ?_) (fun o9 q9 hq9 => ?_)
  · obtain ⟨rfl, hk1, hn9⟩ := hq9
    rcases xC_one hk1 hn9 with ⟨hk2, rfl⟩
    · refine VX_catch [] ⟨0, 6, 7, 15⟩ [] rfl (fun z hz => absurd hz List.not_mem_nil) rfl (by decide) mq_L_15 mz_iae dL_quietIn_7 (by decide) ?_
      show V E l _ _ _ (1, 6) 8 [] []
      refine V_ldc2 dL_quietIn_8 mk_L_17 ?_
      exact V_lret rfl dL_quietIn_11 (by decide) (by decide) ⟨by rw [lC_1 hk2], rfl⟩
  · obtain ⟨hk0, rfl, rfl⟩ := hq9
    show V E l _ _ _ (1, 6) 5 _ [.int A]
    refine V_i2l dL_quietIn_5 ?_
    exact V_lret rfl dL_quietIn_6 (by decide) (by decide) ⟨by rw [lC_0 hk0], rfl⟩
theorem c_L_replay {A : Int32} (h : rX n K G o) (hc : CRel M L o S) (p0 : Int32) (p1 : Int32) (p2 : Int32) (con : Con E l Y_X5_replay [.ref o, .int p0, .int p1, .int p2] (false, n, K, G, M, L) (xG k (some (.int A)) S' o false n K G M L) (xC k nsA (false, n, K, G, M, L))) : Con E l Y_L_replay [.ref o, .int p0, .int p1, .int p2] (false, n, K, G, M, L) (xJ (lC k A.toInt64 cAr 0 0) (if k = 0 then S' else S) o n K G M L) xF := by
  obtain ⟨y1, y2, y3, r, y4, y5⟩ := cc_X5_replay
  refine Con.mkH 1 mp_L_replay (List.cons_ne_nil _ _) (ls := [some (.ref o), some (.int p0), some (.int p1), some (.int p2), none]) rfl (Nat.le_of_ble_eq_true rfl) ?_
  refine V_ald0 dL_replay_0 ?_
  refine V_ild1 dL_replay_1 ?_
  refine V_ild2 dL_replay_2 ?_
  refine V_ild3 dL_replay_3 ?_
  refine V_try (Y' := Y_X5_replay) (As := [.int p0, .int p1, .int p2]) (rest := []) ml_L_81 y1 y2 y3 y4 y5 dL_replay_4 h.1 con (xFit.mk (by decide) (by decide) (by decide) (by decide)) (Nat.le_of_ble_eq_true rfl) (fun Ex q9 hq9 => ?_) (fun o9 q9 hq9 => ?_)
  · obtain ⟨rfl, hk1, hn9⟩ := hq9
    rcases xC_one hk1 hn9 with ⟨hk2, rfl⟩
    · refine VX_catchW [] ⟨0, 8, 9, 15⟩ [] rfl (fun z hz => absurd hz List.not_mem_nil) rfl (by decide) mq_L_15 mz_iae dL_replay_9 (by decide) ?_
      show V E l _ _ _ (1, 6) 11 [] []
      refine V_ldc2 dL_replay_11 mk_L_17 ?_
      exact V_lret rfl dL_replay_14 (by decide) (by decide) (xJ_f (Or.inl hk2) (lC_1 hk2) hc)
  · obtain ⟨hk0, rfl, M1, L1, rfl, c1, f1⟩ := hq9
    show V E l _ _ _ (1, 6) 7 _ [.int A]
    refine V_i2l dL_replay_7 ?_
    exact V_lret rfl dL_replay_8 (by decide) (by decide) (xJ_t hk0 rfl c1 f1)
theorem c_L_bestWindow {A : Int32} (h : rX n K G o) (hc : CRel M L o S) (p0 : Int32) (con : Con E l Y_X5_bestWindow [.ref o, .int p0] (false, n, K, G, M, L) (xG k (some (.int A)) S' o false n K G M L) (xC k nsA (false, n, K, G, M, L))) : Con E l Y_L_bestWindow [.ref o, .int p0] (false, n, K, G, M, L) (xJ (lC k A.toInt64 cAr 0 0) (if k = 0 then S' else S) o n K G M L) xF := by
  obtain ⟨y1, y2, y3, r, y4, y5⟩ := cc_X5_bestWindow
  refine Con.mkH 1 mp_L_bestWindow (List.cons_ne_nil _ _) (ls := [some (.ref o), some (.int p0), none]) rfl (Nat.le_of_ble_eq_true rfl) ?_
  refine V_ald0 dL_bestWindow_0 ?_
  refine V_ild1 dL_bestWindow_1 ?_
  refine V_try (Y' := Y_X5_bestWindow) (As := [.int p0]) (rest := []) ml_L_85 y1 y2 y3 y4 y5 dL_bestWindow_2 h.1 con (xFit.mk (by decide) (by decide) (by decide) (by decide)) (Nat.le_of_ble_eq_true rfl) (fun Ex q9 hq9 => ?_) (fun o9 q9 hq9 => ?_)
  · obtain ⟨rfl, hk1, hn9⟩ := hq9
    rcases xC_one hk1 hn9 with ⟨hk2, rfl⟩
    · refine VX_catch [] ⟨0, 6, 7, 15⟩ [] rfl (fun z hz => absurd hz List.not_mem_nil) rfl (by decide) mq_L_15 mz_iae dL_bestWindow_7 (by decide) ?_
      show V E l _ _ _ (1, 6) 8 [] []
      refine V_ldc2 dL_bestWindow_8 mk_L_17 ?_
      exact V_lret rfl dL_bestWindow_11 (by decide) (by decide) (xJ_f (Or.inl hk2) (lC_1 hk2) hc)
  · obtain ⟨hk0, rfl, M1, L1, rfl, c1, f1⟩ := hq9
    show V E l _ _ _ (1, 6) 5 _ [.int A]
    refine V_i2l dL_bestWindow_5 ?_
    exact V_lret rfl dL_bestWindow_6 (by decide) (by decide) (xJ_t hk0 rfl c1 f1)
theorem c_L_script {A : Int32} (h : rX n K G o) (hc : CRel M L o S) (p0 : Int32) (p1 : Int64) (con : Con E l Y_X5_runScript [.ref o, .int p0, .long p1] (false, n, K, G, M, L) (xG k (some (.int A)) S' o false n K G M L) (xC k nsA (false, n, K, G, M, L))) : Con E l Y_L_script [.ref o, .int p0, .long p1] (false, n, K, G, M, L) (xJ (lC k A.toInt64 cAr 0 0) (if k = 0 then S' else S) o n K G M L) xF := by
  obtain ⟨y1, y2, y3, r, y4, y5⟩ := cc_X5_runScript
  refine Con.mkH 1 mp_L_script (List.cons_ne_nil _ _) (ls := [some (.ref o), some (.int p0), some (.long p1), none, none]) rfl (Nat.le_of_ble_eq_true rfl) ?_
  refine V_ald0 dL_script_0 ?_
  refine V_ild1 dL_script_1 ?_
  refine V_lld2 dL_script_2 ?_
  refine V_try (Y' := Y_X5_runScript) (As := [.int p0, .long p1]) (rest := []) ml_L_88 y1 y2 y3 y4 y5 dL_script_3 h.1 con (xFit.mk (by decide) (by decide) (by decide) (by decide)) (Nat.le_of_ble_eq_true rfl) (fun Ex q9 hq9 => ?_) (fun o9 q9 hq9 => ?_)
  · obtain ⟨rfl, hk1, hn9⟩ := hq9
    rcases xC_one hk1 hn9 with ⟨hk2, rfl⟩
    · refine VX_catchW [] ⟨0, 7, 8, 15⟩ [] rfl (fun z hz => absurd hz List.not_mem_nil) rfl (by decide) mq_L_15 mz_iae dL_script_8 (by decide) ?_
      show V E l _ _ _ (1, 6) 10 [] []
      refine V_ldc2 dL_script_10 mk_L_17 ?_
      exact V_lret rfl dL_script_13 (by decide) (by decide) (xJ_f (Or.inl hk2) (lC_1 hk2) hc)
  · obtain ⟨hk0, rfl, M1, L1, rfl, c1, f1⟩ := hq9
    show V E l _ _ _ (1, 6) 6 _ [.int A]
    refine V_i2l dL_script_6 ?_
    exact V_lret rfl dL_script_7 (by decide) (by decide) (xJ_t hk0 rfl c1 f1)
theorem c_L_simulate {A : Int32} (h : rX n K G o) (hc : CRel M L o S) (p0 : Int64) (p1 : Int32) (con : Con E l Y_X5_simulate [.ref o, .long p0, .int p1] (false, n, K, G, M, L) (xG k (some (.int A)) S' o false n K G M L) (xC k nsA (false, n, K, G, M, L))) : Con E l Y_L_simulate [.ref o, .long p0, .int p1] (false, n, K, G, M, L) (xJ (lC k A.toInt64 cAr 0 0) (if k = 0 then S' else S) o n K G M L) xF := by
  obtain ⟨y1, y2, y3, r, y4, y5⟩ := cc_X5_simulate
  refine Con.mkH 1 mp_L_simulate (List.cons_ne_nil _ _) (ls := [some (.ref o), some (.long p0), none, some (.int p1), none]) rfl (Nat.le_of_ble_eq_true rfl) ?_
  refine V_ald0 dL_simulate_0 ?_
  refine V_lld1 dL_simulate_1 ?_
  refine V_ild3 dL_simulate_2 ?_
  refine V_try (Y' := Y_X5_simulate) (As := [.long p0, .int p1]) (rest := []) ml_L_92 y1 y2 y3 y4 y5 dL_simulate_3 h.1 con (xFit.mk (by decide) (by decide) (by decide) (by decide)) (Nat.le_of_ble_eq_true rfl) (fun Ex q9 hq9 => ?_) (fun o9 q9 hq9 => ?_)
  · obtain ⟨rfl, hk1, hn9⟩ := hq9
    rcases xC_one hk1 hn9 with ⟨hk2, rfl⟩
    · refine VX_catchW [] ⟨0, 7, 8, 15⟩ [] rfl (fun z hz => absurd hz List.not_mem_nil) rfl (by decide) mq_L_15 mz_iae dL_simulate_8 (by decide) ?_
      show V E l _ _ _ (1, 6) 10 [] []
      refine V_ldc2 dL_simulate_10 mk_L_17 ?_
      exact V_lret rfl dL_simulate_13 (by decide) (by decide) (xJ_f (Or.inl hk2) (lC_1 hk2) hc)
  · obtain ⟨hk0, rfl, M1, L1, rfl, c1, f1⟩ := hq9
    show V E l _ _ _ (1, 6) 6 _ [.int A]
    refine V_i2l dL_simulate_6 ?_
    exact V_lret rfl dL_simulate_7 (by decide) (by decide) (xJ_t hk0 rfl c1 f1)
theorem c_L_append {A : Int32} (h : rX n K G o) (hc : CRel M L o S) (p0 : Int32) (con : Con E l Y_X5_append [.ref o, .int p0] (false, n, K, G, M, L) (xG k (some (.int A)) S' o false n K G M L) (xC k nsAS (false, n, K, G, M, L))) : Con E l Y_L_append [.ref o, .int p0] (false, n, K, G, M, L) (xJ (lC k A.toInt64 cAr cSt 0) (if k = 0 then S' else S) o n K G M L) xF := by
  obtain ⟨y1, y2, y3, r, y4, y5⟩ := cc_X5_append
  refine Con.mkH 1 mp_L_append (List.cons_ne_nil _ _) (ls := [some (.ref o), some (.int p0), none]) rfl (Nat.le_of_ble_eq_true rfl) ?_
  refine V_ald0 dL_append_0 ?_
  refine V_ild1 dL_append_1 ?_
  refine V_try (Y' := Y_X5_append) (As := [.int p0]) (rest := []) ml_L_9 y1 y2 y3 y4 y5 dL_append_2 h.1 con (xFit.mk (by decide) (by decide) (by decide) (by decide)) (Nat.le_of_ble_eq_true rfl) (fun Ex q9 hq9 => ?_) (fun o9 q9 hq9 => ?_)
  · obtain ⟨rfl, hk1, hn9⟩ := hq9
    rcases xC_two hk1 hn9 with ⟨hk2, rfl⟩ | ⟨hk2, rfl⟩
    · refine VX_catch [] ⟨0, 6, 7, 15⟩ [⟨0, 6, 12, 19⟩] rfl (fun z hz => absurd hz List.not_mem_nil) rfl (by decide) mq_L_15 mz_iae dL_append_7 (by decide) ?_
      show V E l _ _ _ (1, 6) 8 [] []
      refine V_ldc2 dL_append_8 mk_L_17 ?_
      exact V_lret rfl dL_append_11 (by decide) (by decide) (xJ_f (Or.inl hk2) (lC_1 hk2) hc)
    · refine VX_catch [⟨0, 6, 7, 15⟩] ⟨0, 6, 12, 19⟩ [] rfl (fun z hz => by rcases List.mem_singleton.mp hz with rfl; exact Or.inr ⟨by decide, _, mq_L_15, fun s h9 => by obtain ⟨-, -, -, -, -, -, -, -, -, -, -, n1, n2, n3⟩ := h9; exact n1⟩) rfl (by decide) mq_L_19 mz_ise dL_append_12 (by decide) ?_
      show V E l _ _ _ (1, 6) 13 [] []
      refine V_ldc2 dL_append_13 mk_L_21 ?_
      exact V_lret rfl dL_append_16 (by decide) (by decide) (xJ_f (Or.inr (Or.inl hk2)) (lC_2 hk2) hc)
  · obtain ⟨hk0, rfl, M1, L1, rfl, c1, f1⟩ := hq9
    show V E l _ _ _ (1, 6) 5 _ [.int A]
    refine V_i2l dL_append_5 ?_
    exact V_lret rfl dL_append_6 (by decide) (by decide) (xJ_t hk0 rfl c1 f1)
theorem c_L_undo {A : Int32} (h : rX n K G o) (hc : CRel M L o S)  (con : Con E l Y_X5_undo [.ref o] (false, n, K, G, M, L) (xG k (some (.int A)) S' o false n K G M L) (xC k nsS (false, n, K, G, M, L))) : Con E l Y_L_undo [.ref o] (false, n, K, G, M, L) (xJ (lC k A.toInt64 cSt 0 0) (if k = 0 then S' else S) o n K G M L) xF := by
  obtain ⟨y1, y2, y3, r, y4, y5⟩ := cc_X5_undo
  refine Con.mkH 1 mp_L_undo (List.cons_ne_nil _ _) (ls := [some (.ref o), none]) rfl (Nat.le_of_ble_eq_true rfl) ?_
  refine V_ald0 dL_undo_0 ?_
  refine V_try (Y' := Y_X5_undo) (As := []) (rest := []) ml_L_69 y1 y2 y3 y4 y5 dL_undo_1 h.1 con (xFit.mk (by decide) (by decide) (by decide) (by decide)) (Nat.le_of_ble_eq_true rfl) (fun Ex q9 hq9 => ?_) (fun o9 q9 hq9 => ?_)
  · obtain ⟨rfl, hk1, hn9⟩ := hq9
    rcases xC_one hk1 hn9 with ⟨hk2, rfl⟩
    · refine VX_catch [] ⟨0, 5, 6, 19⟩ [] rfl (fun z hz => absurd hz List.not_mem_nil) rfl (by decide) mq_L_19 mz_ise dL_undo_6 (by decide) ?_
      show V E l _ _ _ (1, 6) 7 [] []
      refine V_ldc2 dL_undo_7 mk_L_21 ?_
      exact V_lret rfl dL_undo_10 (by decide) (by decide) (xJ_f (Or.inl hk2) (lC_1 hk2) hc)
  · obtain ⟨hk0, rfl, M1, L1, rfl, c1, f1⟩ := hq9
    show V E l _ _ _ (1, 6) 4 _ [.int A]
    refine V_i2l dL_undo_4 ?_
    exact V_lret rfl dL_undo_5 (by decide) (by decide) (xJ_t hk0 rfl c1 f1)
end C76

/-! ===== the law: its calls of the class, with their handlers ===== -/
theorem V_loose {E : xEnv} {l : Launch} {Y : xY} {Q : xQ} {q : xS} {cs : Nat × Nat} {pc : Nat} {ls : List (Option Value)} {st : List Value} (k : V E l Y Q (false, q.2) cs pc ls st) : V E l Y Q q cs pc ls st :=
  fun p e s m args below meth c C H locs lc hl hR hS => k p e s m args below meth c C H locs lc hl ⟨hR.1, hR.2.1, hR.2.2.1, fun z => by cases z⟩ hS
theorem xC_one {k : Nat} {a Ex : String} (h0 : 0 < k) (h : [a][k - 1]? = some Ex) : k = 1 ∧ Ex = a := by
  obtain ⟨j, rfl⟩ : ∃ j, k = j + 1 := ⟨k - 1, by omega⟩
  match j, h with
  | 0, h => exact ⟨rfl, (Option.some.inj h).symm⟩
  | j + 1, h => simp at h
theorem xC_two {k : Nat} {a b Ex : String} (h0 : 0 < k) (h : [a, b][k - 1]? = some Ex) : (k = 1 ∧ Ex = a) ∨ (k = 2 ∧ Ex = b) := by
  obtain ⟨j, rfl⟩ : ∃ j, k = j + 1 := ⟨k - 1, by omega⟩
  match j, h with
  | 0, h => exact Or.inl ⟨rfl, (Option.some.inj h).symm⟩
  | 1, h => exact Or.inr ⟨rfl, (Option.some.inj h).symm⟩
  | j + 2, h => simp at h
theorem xC_three {k : Nat} {a b c Ex : String} (h0 : 0 < k) (h : [a, b, c][k - 1]? = some Ex) : (k = 1 ∧ Ex = a) ∨ (k = 2 ∧ Ex = b) ∨ (k = 3 ∧ Ex = c) := by
  obtain ⟨j, rfl⟩ : ∃ j, k = j + 1 := ⟨k - 1, by omega⟩
  match j, h with
  | 0, h => exact Or.inl ⟨rfl, (Option.some.inj h).symm⟩
  | 1, h => exact Or.inr (Or.inl ⟨rfl, (Option.some.inj h).symm⟩)
  | 2, h => exact Or.inr (Or.inr ⟨rfl, (Option.some.inj h).symm⟩)
  | j + 3, h => simp at h
/-- a wrapped call: its code; the answer stands in the long row u if the code is 0 -/
def xH (k : Nat) (A : Int64) (S' S : xSp) (o u n : Nat) (K : xKnd) (G : xRef) (M : xMem) (L : xLng) : xP := fun r q' => ∃ x' M' L', r = some (.int (nI k)) ∧ q' = (x', n, K, G, M', L') ∧ CRel M' L' o (if k = 0 then S' else S) ∧ (∀ j, (j < o ∨ o + 288 < j) → j ≠ u → M' j = M j ∧ L' j = L j) ∧ (k = 0 → L' u 0 = A) ∧ k ≤ 3
section P73
variable {K : xKnd} {G : xRef} {M M1 : xMem} {L L1 : xLng} {o u n k : Nat} {S S' : xSp} {x : Bool} {A v : Int64}
theorem CRel.out (h : CRel M L o S) (hu : u < o ∨ o + 288 < u) : CRel M (xup L u 0 v) o S := h.scr (fun _ _ _ _ _ => rfl) (fun k _ => xup_i (by decide))
theorem xH_t (hk : k = 0) (c1 : CRel M1 L1 o S') (f1 : Fr o M L M1 L1) (hu : u < o ∨ o + 288 < u) : xH k A S' S o u n K G M L (some (.int 0)) (x, n, K, G, M1, xup L1 u 0 A) :=
  ⟨x, M1, _, by rw [hk]; rfl, rfl, by rw [if_pos hk]; exact c1.out hu, fun j h1 h2 => ⟨funext (f1 j h1).1, by rw [xup_kf h2]; exact funext (f1 j h1).2⟩, fun _ => xup_s, by omega⟩
theorem xH_f {k : Nat} (h3 : k < 3) (hc : CRel M L o S) : xH (k + 1) A S' S o u n K G M L (some (.int (nI (k + 1)))) (false, n, K, G, M, L) :=
  ⟨false, M, L, rfl, rfl, hc, fun _ _ _ => ⟨rfl, rfl⟩, fun q => absurd q (by omega), h3⟩
end P73
section C73
variable {E : xEnv} {l : Launch} {x : Bool} {n : Nat} {K : xKnd} {G : xRef} {M : xMem} {L : xLng} {o u k : Nat} {S S' : xSp}
theorem V_csH {Y Y' : xY} {Q : xQ} {q : xS} {cs : Nat × Nat} {pc : Nat} {ls : List (Option Value)} {P : xP} {idx : Nat} {As rest : List Value} (hk : Cond.methodLink Y.1.cls idx Y'.1 ∈ xTT) (ht : Y'.2.2.2.2.2 ≠ []) (hcw : Cond.codeWith Y'.1 Y'.2.1 Y'.2.2.1 Y'.2.2.2.1 Y'.2.2.2.2.2 ∈ xTT) (hin : Cond.initialized Y'.1.cls ∈ xTT)
    (hn : Y'.1.cls ≠ "java/lang/invoke/MethodHandle" ∧ Y'.1.cls ≠ "java/lang/invoke/VarHandle" ∧ (parseMethodDescriptor Y'.1.desc).map (fun d => d.parameters.length) = some As.length) (hst : Cond.static Y'.1 ∈ xTT)
    (d : decode Y.2.1 pc = .ok (.invokestatic idx, 3)) (con : Con E l Y' As q P xF) (fit : xFit Y Y' cs) (hW : (rest.map fun v => v.category).sum ≤ 8)
    (kk : ∀ o q', P o q' → V E l Y Q q' (cs.1 + Y'.2.2.2.2.1.cells, cs.2 + Y'.2.2.2.2.1.slots) (pc + 3) ls (o.toList ++ rest)) : V E l Y Q q cs pc ls (As.reverse ++ rest) := by
  intro p e s m args below meth cc C H locs lc hl hR hS
  obtain ⟨hx, hb, hml, hr, hlk, hnm, hown, hts, hKn, htab⟩ := id C
  have S : CallFix p m cc Y.2.1 Y.2.2.1 s args xTT Y.1.cls := ⟨hx, hb, hml, hown, hts⟩
  have ew : xws Y' = Cond.codeWith Y'.1 Y'.2.1 Y'.2.2.1 Y'.2.2.2.1 Y'.2.2.2.2.2 :: xTT := by unfold xws xhd; rw [if_neg ht]
  have hws : ∀ w ∈ xws Y', ∀ (a' : Array Value) (U : State), s.WarmedH U.vm → w.before a' U = true := by
    intro w hw a' U hW
    rw [ew] at hw
    rcases List.mem_cons.mp hw with rfl | hw
    · exact xTT_at hW hts _ hcw
    · exact xTT_at hW hts _ hw
  have hp : PreS s H (xPre E As q) (As.map (xv E)) := ⟨xPre.blind, fun U hU hW => ⟨rfl, hKn.go hS hU hW, by rw [hU]; exact hR⟩⟩
  have hW' : 2 * (F0 m pc lc []).monitorRoom + ((rest.map (xv E)).map fun v => v.category).sum ≤ 8 := by rw [xcat]; show 2 * 0 + _ ≤ 8; omega
  have fin : ∀ (o : Option Value) (q' : xS) (H1 : Heap) (locs1 : List Loc), P o q' → xRel E q' H1 → va_S (xA E) s.heap H1 locs1 → W p l e Y.2.2.2.2.1 s m args below meth cc H1 locs1 (cs.1 + Y'.2.2.2.2.1.cells) (cs.2 + Y'.2.2.2.2.1.slots) (Q s args below) (F0 m (pc + 3) lc ((o.map (xv E)).toList ++ rest.map (xv E))) := by
    intro o q' H1 locs1 hP hR1 hS1
    have := kk o q' hP p e s m args below meth cc C H1 locs1 lc hl hR1 hS1
    rw [List.map_append] at this
    cases o <;> exact this
  have es : (As.reverse ++ rest).map (xv E) = (As.map (xv E)).reverse ++ rest.map (xv E) := by simp
  rw [es]
  have hlen : ∀ sig, parseMethodDescriptor Y'.1.desc = some sig → As.length = sig.parameters.length := fun sig h => by
    have h2 := hn.2.2
    rw [h] at h2
    exact (Option.some.inj h2).symm
  exact xcall (vx_runSW (n := As.length) S con.met ⟨⟨rfl, rfl, fit.1, fit.2.1, hws, by rw [ew]; exact List.mem_cons_self⟩, hts _ hcw, hts _ hin, ⟨hn.1, hn.2.1⟩, hlen, hts _ hk, hts _ hst⟩ hp rfl (by simp) hl.1 rfl hW' d fit.2.2) hS fin
theorem c_L_append {A : Int32} (h : rX n K G o) (hu : xIs n K u 11 1) (ho : u < o ∨ o + 288 < u) (hc : CRel M L o S) (p0 : Int32) (con : Con E l Y_X5_append [.ref o, .int p0] (x, n, K, G, M, L) (xG k (some (.int A)) S' o x n K G M L) (xC k nsAS (x, n, K, G, M, L))) : Con E l Y_L_append [.ref o, .int p0, .ref u] (x, n, K, G, M, L) (xH k A.toInt64 S' S o u n K G M L) xF := by
  obtain ⟨y1, y2, y3, r, y4, y5⟩ := cc_X5_append
  refine Con.mkH 1 mp_L_append (List.cons_ne_nil _ _) (ls := [some (.ref o), some (.int p0), some (.ref u), none]) rfl (Nat.le_of_ble_eq_true rfl) ?_
  refine V_ald2 dL_append_0 ?_
  refine V_iconst (v := 0) dL_append_1 (by decide) ?_
  refine V_ald0 dL_append_2 ?_
  refine V_ild1 dL_append_3 ?_
  refine V_try (Y' := Y_X5_append) (As := [.int p0]) (rest := [.int 0, .ref u]) ml_L_7 y1 y2 y3 y4 y5 dL_append_4 h.1 con (xFit.mk (by decide) (by decide) (by decide) (by decide)) (Nat.le_of_ble_eq_true rfl) (fun Ex q9 hq9 => ?_) (fun o9 q9 hq9 => ?_)
  · obtain ⟨rfl, hk1, hn9⟩ := hq9
    rcases xC_two hk1 hn9 with ⟨rfl, rfl⟩ | ⟨rfl, rfl⟩
    · refine VX_catch [] ⟨0, 9, 12, 13⟩ [⟨0, 9, 15, 15⟩] rfl (fun z hz => absurd hz List.not_mem_nil) rfl (by decide) mq_L_13 mz_iae dL_append_12 (by decide) ?_
      show V E l _ _ _ (1, 6) 13 [] []
      refine V_iconst (v := 1) dL_append_13 (by decide) ?_
      exact V_iret rfl dL_append_14 (by decide) (by decide) (xH_f (k := 0) (by decide) hc)
    · refine VX_catch [⟨0, 9, 12, 13⟩] ⟨0, 9, 15, 15⟩ [] rfl (fun z hz => by rcases List.mem_singleton.mp hz with rfl; exact Or.inr ⟨by decide, _, mq_L_13, fun s h9 => by obtain ⟨-, -, -, -, -, -, -, -, -, -, -, n1, n2, n3⟩ := h9; exact n1⟩) rfl (by decide) mq_L_15 mz_ise dL_append_15 (by decide) ?_
      show V E l _ _ _ (1, 6) 16 [] []
      refine V_iconst (v := 2) dL_append_16 (by decide) ?_
      exact V_iret rfl dL_append_17 (by decide) (by decide) (xH_f (k := 1) (by decide) hc)
  · obtain ⟨hk0, rfl, M1, L1, rfl, c1, f1⟩ := hq9
    show V E l _ _ _ (1, 6) 7 _ [.int A, .int 0, .ref u]
    refine V_i2l dL_append_7 ?_
    refine V_last (j := 0) dL_append_8 (by assumption) (by decide) (by decide) ?_
    refine V_goto (tgt := 18) dL_append_9 (by decide) ?_
    refine V_iconst (v := 0) dL_append_18 (by decide) ?_
    exact V_iret rfl dL_append_19 (by decide) (by decide) (xH_t hk0 c1 f1 ho)
theorem c_L_load {A : Int32} (h : rX n K G o) (hu : xIs n K u 11 1) (ho : u < o ∨ o + 288 < u) (hc : CRel M L o S)  (con : Con E l Y_X5_load [.ref o] (x, n, K, G, M, L) (xG k (some (.int A)) S' o x n K G M L) (xC k nsS (x, n, K, G, M, L))) : Con E l Y_L_load [.ref o, .ref u] (x, n, K, G, M, L) (xH k A.toInt64 S' S o u n K G M L) xF := by
  obtain ⟨y1, y2, y3, r, y4, y5⟩ := cc_X5_load
  refine Con.mkH 1 mp_L_load (List.cons_ne_nil _ _) (ls := [some (.ref o), some (.ref u), none]) rfl (Nat.le_of_ble_eq_true rfl) ?_
  refine V_ald1 dL_load_0 ?_
  refine V_iconst (v := 0) dL_load_1 (by decide) ?_
  refine V_ald0 dL_load_2 ?_
  refine V_try (Y' := Y_X5_load) (As := []) (rest := [.int 0, .ref u]) ml_L_17 y1 y2 y3 y4 y5 dL_load_3 h.1 con (xFit.mk (by decide) (by decide) (by decide) (by decide)) (Nat.le_of_ble_eq_true rfl) (fun Ex q9 hq9 => ?_) (fun o9 q9 hq9 => ?_)
  · obtain ⟨rfl, hk1, hn9⟩ := hq9
    rcases xC_one hk1 hn9 with ⟨rfl, rfl⟩
    · refine VX_catch [] ⟨0, 8, 11, 15⟩ [] rfl (fun z hz => absurd hz List.not_mem_nil) rfl (by decide) mq_L_15 mz_ise dL_load_11 (by decide) ?_
      show V E l _ _ _ (1, 6) 12 [] []
      refine V_iconst (v := 1) dL_load_12 (by decide) ?_
      exact V_iret rfl dL_load_13 (by decide) (by decide) (xH_f (k := 0) (by decide) hc)
  · obtain ⟨hk0, rfl, M1, L1, rfl, c1, f1⟩ := hq9
    show V E l _ _ _ (1, 6) 6 _ [.int A, .int 0, .ref u]
    refine V_i2l dL_load_6 ?_
    refine V_last (j := 0) dL_load_7 (by assumption) (by decide) (by decide) ?_
    refine V_goto (tgt := 14) dL_load_8 (by decide) ?_
    refine V_iconst (v := 0) dL_load_14 (by decide) ?_
    exact V_iret rfl dL_load_15 (by decide) (by decide) (xH_t hk0 c1 f1 ho)
theorem c_L_about {A : Int32} (h : rX n K G o) (hu : xIs n K u 11 1) (ho : u < o ∨ o + 288 < u) (hc : CRel M L o S) (p0 : Int32) (con : Con E l Y_X5_about [.ref o, .int p0] (x, n, K, G, M, L) (xG k (some (.int A)) S' o x n K G M L) (xC k nsA (x, n, K, G, M, L))) : Con E l Y_L_about [.ref o, .int p0, .ref u] (x, n, K, G, M, L) (xH k A.toInt64 S' S o u n K G M L) xF := by
  obtain ⟨y1, y2, y3, r, y4, y5⟩ := cc_X5_about
  refine Con.mkH 1 mp_L_about (List.cons_ne_nil _ _) (ls := [some (.ref o), some (.int p0), some (.ref u), none]) rfl (Nat.le_of_ble_eq_true rfl) ?_
  refine V_ald2 dL_about_0 ?_
  refine V_iconst (v := 0) dL_about_1 (by decide) ?_
  refine V_ald0 dL_about_2 ?_
  refine V_ild1 dL_about_3 ?_
  refine V_try (Y' := Y_X5_about) (As := [.int p0]) (rest := [.int 0, .ref u]) ml_L_21 y1 y2 y3 y4 y5 dL_about_4 h.1 con (xFit.mk (by decide) (by decide) (by decide) (by decide)) (Nat.le_of_ble_eq_true rfl) (fun Ex q9 hq9 => ?_) (fun o9 q9 hq9 => ?_)
  · obtain ⟨rfl, hk1, hn9⟩ := hq9
    rcases xC_one hk1 hn9 with ⟨rfl, rfl⟩
    · refine VX_catch [] ⟨0, 9, 12, 13⟩ [] rfl (fun z hz => absurd hz List.not_mem_nil) rfl (by decide) mq_L_13 mz_iae dL_about_12 (by decide) ?_
      show V E l _ _ _ (1, 6) 13 [] []
      refine V_iconst (v := 1) dL_about_13 (by decide) ?_
      exact V_iret rfl dL_about_14 (by decide) (by decide) (xH_f (k := 0) (by decide) hc)
  · obtain ⟨hk0, rfl, M1, L1, rfl, c1, f1⟩ := hq9
    show V E l _ _ _ (1, 6) 7 _ [.int A, .int 0, .ref u]
    refine V_i2l dL_about_7 ?_
    refine V_last (j := 0) dL_about_8 (by assumption) (by decide) (by decide) ?_
    refine V_goto (tgt := 15) dL_about_9 (by decide) ?_
    refine V_iconst (v := 0) dL_about_15 (by decide) ?_
    exact V_iret rfl dL_about_16 (by decide) (by decide) (xH_t hk0 c1 f1 ho)
theorem c_L_setting {A : Int32} (h : rX n K G o) (hu : xIs n K u 11 1) (ho : u < o ∨ o + 288 < u) (hc : CRel M L o S) (p0 : Int32) (con : Con E l Y_X5_setting [.ref o, .int p0] (x, n, K, G, M, L) (xG k (some (.int A)) S' o x n K G M L) (xC k nsA (x, n, K, G, M, L))) : Con E l Y_L_setting [.ref o, .int p0, .ref u] (x, n, K, G, M, L) (xH k A.toInt64 S' S o u n K G M L) xF := by
  obtain ⟨y1, y2, y3, r, y4, y5⟩ := cc_X5_setting
  refine Con.mkH 1 mp_L_setting (List.cons_ne_nil _ _) (ls := [some (.ref o), some (.int p0), some (.ref u), none]) rfl (Nat.le_of_ble_eq_true rfl) ?_
  refine V_ald2 dL_setting_0 ?_
  refine V_iconst (v := 0) dL_setting_1 (by decide) ?_
  refine V_ald0 dL_setting_2 ?_
  refine V_ild1 dL_setting_3 ?_
  refine V_try (Y' := Y_X5_setting) (As := [.int p0]) (rest := [.int 0, .ref u]) ml_L_24 y1 y2 y3 y4 y5 dL_setting_4 h.1 con (xFit.mk (by decide) (by decide) (by decide) (by decide)) (Nat.le_of_ble_eq_true rfl) (fun Ex q9 hq9 => ?_) (fun o9 q9 hq9 => ?_)
  · obtain ⟨rfl, hk1, hn9⟩ := hq9
    rcases xC_one hk1 hn9 with ⟨rfl, rfl⟩
    · refine VX_catch [] ⟨0, 9, 12, 13⟩ [] rfl (fun z hz => absurd hz List.not_mem_nil) rfl (by decide) mq_L_13 mz_iae dL_setting_12 (by decide) ?_
      show V E l _ _ _ (1, 6) 13 [] []
      refine V_iconst (v := 1) dL_setting_13 (by decide) ?_
      exact V_iret rfl dL_setting_14 (by decide) (by decide) (xH_f (k := 0) (by decide) hc)
  · obtain ⟨hk0, rfl, M1, L1, rfl, c1, f1⟩ := hq9
    show V E l _ _ _ (1, 6) 7 _ [.int A, .int 0, .ref u]
    refine V_i2l dL_setting_7 ?_
    refine V_last (j := 0) dL_setting_8 (by assumption) (by decide) (by decide) ?_
    refine V_goto (tgt := 15) dL_setting_9 (by decide) ?_
    refine V_iconst (v := 0) dL_setting_15 (by decide) ?_
    exact V_iret rfl dL_setting_16 (by decide) (by decide) (xH_t hk0 c1 f1 ho)
theorem c_L_bin {A : Int32} (h : rX n K G o) (hu : xIs n K u 11 1) (ho : u < o ∨ o + 288 < u) (hc : CRel M L o S) (p0 : Int32) (p1 : Int32) (con : Con E l Y_X5_bin [.ref o, .int p0, .int p1] (x, n, K, G, M, L) (xG k (some (.int A)) S' o x n K G M L) (xC k nsIA (x, n, K, G, M, L))) : Con E l Y_L_bin [.ref o, .int p0, .int p1, .ref u] (x, n, K, G, M, L) (xH k A.toInt64 S' S o u n K G M L) xF := by
  obtain ⟨y1, y2, y3, r, y4, y5⟩ := cc_X5_bin
  refine Con.mkH 1 mp_L_bin (List.cons_ne_nil _ _) (ls := [some (.ref o), some (.int p0), some (.int p1), some (.ref u), none]) rfl (Nat.le_of_ble_eq_true rfl) ?_
  refine V_ald3 dL_bin_0 ?_
  refine V_iconst (v := 0) dL_bin_1 (by decide) ?_
  refine V_ald0 dL_bin_2 ?_
  refine V_ild1 dL_bin_3 ?_
  refine V_ild2 dL_bin_4 ?_
  refine V_try (Y' := Y_X5_bin) (As := [.int p0, .int p1]) (rest := [.int 0, .ref u]) ml_L_27 y1 y2 y3 y4 y5 dL_bin_5 h.1 con (xFit.mk (by decide) (by decide) (by decide) (by decide)) (Nat.le_of_ble_eq_true rfl) (fun Ex q9 hq9 => ?_) (fun o9 q9 hq9 => ?_)
  · obtain ⟨rfl, hk1, hn9⟩ := hq9
    rcases xC_two hk1 hn9 with ⟨rfl, rfl⟩ | ⟨rfl, rfl⟩
    · refine VX_catchW [] ⟨0, 10, 13, 31⟩ [⟨0, 10, 17, 13⟩] rfl (fun z hz => absurd hz List.not_mem_nil) rfl (by decide) mq_L_31 mz_ioobe dL_bin_13 (by decide) ?_
      show V E l _ _ _ (1, 6) 15 [] []
      refine V_iconst (v := 1) dL_bin_15 (by decide) ?_
      exact V_iret rfl dL_bin_16 (by decide) (by decide) (xH_f (k := 0) (by decide) hc)
    · refine VX_catchW [⟨0, 10, 13, 31⟩] ⟨0, 10, 17, 13⟩ [] rfl (fun z hz => by rcases List.mem_singleton.mp hz with rfl; exact Or.inr ⟨by decide, _, mq_L_31, fun s h9 => by obtain ⟨-, -, -, -, -, -, -, -, -, -, -, n1, n2, n3⟩ := h9; exact n2⟩) rfl (by decide) mq_L_13 mz_iae dL_bin_17 (by decide) ?_
      show V E l _ _ _ (1, 6) 19 [] []
      refine V_iconst (v := 2) dL_bin_19 (by decide) ?_
      exact V_iret rfl dL_bin_20 (by decide) (by decide) (xH_f (k := 1) (by decide) hc)
  · obtain ⟨hk0, rfl, M1, L1, rfl, c1, f1⟩ := hq9
    show V E l _ _ _ (1, 6) 8 _ [.int A, .int 0, .ref u]
    refine V_i2l dL_bin_8 ?_
    refine V_last (j := 0) dL_bin_9 (by assumption) (by decide) (by decide) ?_
    refine V_goto (tgt := 21) dL_bin_10 (by decide) ?_
    refine V_iconst (v := 0) dL_bin_21 (by decide) ?_
    exact V_iret rfl dL_bin_22 (by decide) (by decide) (xH_t hk0 c1 f1 ho)
theorem c_L_pulse {A : Int32} (h : rX n K G o) (hu : xIs n K u 11 1) (ho : u < o ∨ o + 288 < u) (hc : CRel M L o S) (p0 : Int32) (con : Con E l Y_X5_pulse [.ref o, .int p0] (x, n, K, G, M, L) (xG k (some (.int A)) S' o x n K G M L) (xC k nsA (x, n, K, G, M, L))) : Con E l Y_L_pulse [.ref o, .int p0, .ref u] (x, n, K, G, M, L) (xH k A.toInt64 S' S o u n K G M L) xF := by
  obtain ⟨y1, y2, y3, r, y4, y5⟩ := cc_X5_pulse
  refine Con.mkH 1 mp_L_pulse (List.cons_ne_nil _ _) (ls := [some (.ref o), some (.int p0), some (.ref u), none]) rfl (Nat.le_of_ble_eq_true rfl) ?_
  refine V_ald2 dL_pulse_0 ?_
  refine V_iconst (v := 0) dL_pulse_1 (by decide) ?_
  refine V_ald0 dL_pulse_2 ?_
  refine V_ild1 dL_pulse_3 ?_
  refine V_try (Y' := Y_X5_pulse) (As := [.int p0]) (rest := [.int 0, .ref u]) ml_L_33 y1 y2 y3 y4 y5 dL_pulse_4 h.1 con (xFit.mk (by decide) (by decide) (by decide) (by decide)) (Nat.le_of_ble_eq_true rfl) (fun Ex q9 hq9 => ?_) (fun o9 q9 hq9 => ?_)
  · obtain ⟨rfl, hk1, hn9⟩ := hq9
    rcases xC_one hk1 hn9 with ⟨rfl, rfl⟩
    · refine VX_catch [] ⟨0, 9, 12, 13⟩ [] rfl (fun z hz => absurd hz List.not_mem_nil) rfl (by decide) mq_L_13 mz_iae dL_pulse_12 (by decide) ?_
      show V E l _ _ _ (1, 6) 13 [] []
      refine V_iconst (v := 1) dL_pulse_13 (by decide) ?_
      exact V_iret rfl dL_pulse_14 (by decide) (by decide) (xH_f (k := 0) (by decide) hc)
  · obtain ⟨hk0, rfl, M1, L1, rfl, c1, f1⟩ := hq9
    show V E l _ _ _ (1, 6) 7 _ [.int A, .int 0, .ref u]
    refine V_i2l dL_pulse_7 ?_
    refine V_last (j := 0) dL_pulse_8 (by assumption) (by decide) (by decide) ?_
    refine V_goto (tgt := 15) dL_pulse_9 (by decide) ?_
    refine V_iconst (v := 0) dL_pulse_15 (by decide) ?_
    exact V_iret rfl dL_pulse_16 (by decide) (by decide) (xH_t hk0 c1 f1 ho)
theorem c_L_fate {A : Int32} (h : rX n K G o) (hu : xIs n K u 11 1) (ho : u < o ∨ o + 288 < u) (hc : CRel M L o S) (p0 : Int32) (con : Con E l Y_X5_fate [.ref o, .int p0] (x, n, K, G, M, L) (xG k (some (.int A)) S' o x n K G M L) (xC k nsA (x, n, K, G, M, L))) : Con E l Y_L_fate [.ref o, .int p0, .ref u] (x, n, K, G, M, L) (xH k A.toInt64 S' S o u n K G M L) xF := by
  obtain ⟨y1, y2, y3, r, y4, y5⟩ := cc_X5_fate
  refine Con.mkH 1 mp_L_fate (List.cons_ne_nil _ _) (ls := [some (.ref o), some (.int p0), some (.ref u), none]) rfl (Nat.le_of_ble_eq_true rfl) ?_
  refine V_ald2 dL_fate_0 ?_
  refine V_iconst (v := 0) dL_fate_1 (by decide) ?_
  refine V_ald0 dL_fate_2 ?_
  refine V_ild1 dL_fate_3 ?_
  refine V_try (Y' := Y_X5_fate) (As := [.int p0]) (rest := [.int 0, .ref u]) ml_L_36 y1 y2 y3 y4 y5 dL_fate_4 h.1 con (xFit.mk (by decide) (by decide) (by decide) (by decide)) (Nat.le_of_ble_eq_true rfl) (fun Ex q9 hq9 => ?_) (fun o9 q9 hq9 => ?_)
  · obtain ⟨rfl, hk1, hn9⟩ := hq9
    rcases xC_one hk1 hn9 with ⟨rfl, rfl⟩
    · refine VX_catch [] ⟨0, 9, 12, 13⟩ [] rfl (fun z hz => absurd hz List.not_mem_nil) rfl (by decide) mq_L_13 mz_iae dL_fate_12 (by decide) ?_
      show V E l _ _ _ (1, 6) 13 [] []
      refine V_iconst (v := 1) dL_fate_13 (by decide) ?_
      exact V_iret rfl dL_fate_14 (by decide) (by decide) (xH_f (k := 0) (by decide) hc)
  · obtain ⟨hk0, rfl, M1, L1, rfl, c1, f1⟩ := hq9
    show V E l _ _ _ (1, 6) 7 _ [.int A, .int 0, .ref u]
    refine V_i2l dL_fate_7 ?_
    refine V_last (j := 0) dL_fate_8 (by assumption) (by decide) (by decide) ?_
    refine V_goto (tgt := 15) dL_fate_9 (by decide) ?_
    refine V_iconst (v := 0) dL_fate_15 (by decide) ?_
    exact V_iret rfl dL_fate_16 (by decide) (by decide) (xH_t hk0 c1 f1 ho)
theorem c_L_longest {A : Int32} (h : rX n K G o) (hu : xIs n K u 11 1) (ho : u < o ∨ o + 288 < u) (hc : CRel M L o S) (p0 : Int32) (con : Con E l Y_X5_longest [.ref o, .int p0] (x, n, K, G, M, L) (xG k (some (.int A)) S' o x n K G M L) (xC k nsA (x, n, K, G, M, L))) : Con E l Y_L_longest [.ref o, .int p0, .ref u] (x, n, K, G, M, L) (xH k A.toInt64 S' S o u n K G M L) xF := by
  obtain ⟨y1, y2, y3, r, y4, y5⟩ := cc_X5_longest
  refine Con.mkH 1 mp_L_longest (List.cons_ne_nil _ _) (ls := [some (.ref o), some (.int p0), some (.ref u), none]) rfl (Nat.le_of_ble_eq_true rfl) ?_
  refine V_ald2 dL_longest_0 ?_
  refine V_iconst (v := 0) dL_longest_1 (by decide) ?_
  refine V_ald0 dL_longest_2 ?_
  refine V_ild1 dL_longest_3 ?_
  refine V_try (Y' := Y_X5_longest) (As := [.int p0]) (rest := [.int 0, .ref u]) ml_L_39 y1 y2 y3 y4 y5 dL_longest_4 h.1 con (xFit.mk (by decide) (by decide) (by decide) (by decide)) (Nat.le_of_ble_eq_true rfl) (fun Ex q9 hq9 => ?_) (fun o9 q9 hq9 => ?_)
  · obtain ⟨rfl, hk1, hn9⟩ := hq9
    rcases xC_one hk1 hn9 with ⟨rfl, rfl⟩
    · refine VX_catch [] ⟨0, 9, 12, 13⟩ [] rfl (fun z hz => absurd hz List.not_mem_nil) rfl (by decide) mq_L_13 mz_iae dL_longest_12 (by decide) ?_
      show V E l _ _ _ (1, 6) 13 [] []
      refine V_iconst (v := 1) dL_longest_13 (by decide) ?_
      exact V_iret rfl dL_longest_14 (by decide) (by decide) (xH_f (k := 0) (by decide) hc)
  · obtain ⟨hk0, rfl, M1, L1, rfl, c1, f1⟩ := hq9
    show V E l _ _ _ (1, 6) 7 _ [.int A, .int 0, .ref u]
    refine V_i2l dL_longest_7 ?_
    refine V_last (j := 0) dL_longest_8 (by assumption) (by decide) (by decide) ?_
    refine V_goto (tgt := 15) dL_longest_9 (by decide) ?_
    refine V_iconst (v := 0) dL_longest_15 (by decide) ?_
    exact V_iret rfl dL_longest_16 (by decide) (by decide) (xH_t hk0 c1 f1 ho)
theorem c_L_pattern {A : Int32} (h : rX n K G o) (hu : xIs n K u 11 1) (ho : u < o ∨ o + 288 < u) (hc : CRel M L o S) (p0 : Int32) (p1 : Int32) (con : Con E l Y_X5_pattern [.ref o, .int p0, .int p1] (x, n, K, G, M, L) (xG k (some (.int A)) S' o x n K G M L) (xC k nsA (x, n, K, G, M, L))) : Con E l Y_L_pattern [.ref o, .int p0, .int p1, .ref u] (x, n, K, G, M, L) (xH k A.toInt64 S' S o u n K G M L) xF := by
  obtain ⟨y1, y2, y3, r, y4, y5⟩ := cc_X5_pattern
  refine Con.mkH 1 mp_L_pattern (List.cons_ne_nil _ _) (ls := [some (.ref o), some (.int p0), some (.int p1), some (.ref u), none]) rfl (Nat.le_of_ble_eq_true rfl) ?_
  refine V_ald3 dL_pattern_0 ?_
  refine V_iconst (v := 0) dL_pattern_1 (by decide) ?_
  refine V_ald0 dL_pattern_2 ?_
  refine V_ild1 dL_pattern_3 ?_
  refine V_ild2 dL_pattern_4 ?_
  refine V_try (Y' := Y_X5_pattern) (As := [.int p0, .int p1]) (rest := [.int 0, .ref u]) ml_L_42 y1 y2 y3 y4 y5 dL_pattern_5 h.1 con (xFit.mk (by decide) (by decide) (by decide) (by decide)) (Nat.le_of_ble_eq_true rfl) (fun Ex q9 hq9 => ?_) (fun o9 q9 hq9 => ?_)
  · obtain ⟨rfl, hk1, hn9⟩ := hq9
    rcases xC_one hk1 hn9 with ⟨rfl, rfl⟩
    · refine VX_catchW [] ⟨0, 10, 13, 13⟩ [] rfl (fun z hz => absurd hz List.not_mem_nil) rfl (by decide) mq_L_13 mz_iae dL_pattern_13 (by decide) ?_
      show V E l _ _ _ (1, 6) 15 [] []
      refine V_iconst (v := 1) dL_pattern_15 (by decide) ?_
      exact V_iret rfl dL_pattern_16 (by decide) (by decide) (xH_f (k := 0) (by decide) hc)
  · obtain ⟨hk0, rfl, M1, L1, rfl, c1, f1⟩ := hq9
    show V E l _ _ _ (1, 6) 8 _ [.int A, .int 0, .ref u]
    refine V_i2l dL_pattern_8 ?_
    refine V_last (j := 0) dL_pattern_9 (by assumption) (by decide) (by decide) ?_
    refine V_goto (tgt := 17) dL_pattern_10 (by decide) ?_
    refine V_iconst (v := 0) dL_pattern_17 (by decide) ?_
    exact V_iret rfl dL_pattern_18 (by decide) (by decide) (xH_t hk0 c1 f1 ho)
theorem c_L_rain {A : Int64} (h : rX n K G o) (hu : xIs n K u 11 1) (ho : u < o ∨ o + 288 < u) (hc : CRel M L o S) (p0 : Int32) (con : Con E l Y_X5_rain [.ref o, .int p0] (x, n, K, G, M, L) (xG k (some (.long A)) S' o x n K G M L) (xC k nsA (x, n, K, G, M, L))) : Con E l Y_L_rain [.ref o, .int p0, .ref u] (x, n, K, G, M, L) (xH k A S' S o u n K G M L) xF := by
  obtain ⟨y1, y2, y3, r, y4, y5⟩ := cc_X5_rain
  refine Con.mkH 1 mp_L_rain (List.cons_ne_nil _ _) (ls := [some (.ref o), some (.int p0), some (.ref u), none]) rfl (Nat.le_of_ble_eq_true rfl) ?_
  refine V_ald2 dL_rain_0 ?_
  refine V_iconst (v := 0) dL_rain_1 (by decide) ?_
  refine V_ald0 dL_rain_2 ?_
  refine V_ild1 dL_rain_3 ?_
  refine V_try (Y' := Y_X5_rain) (As := [.int p0]) (rest := [.int 0, .ref u]) ml_L_45 y1 y2 y3 y4 y5 dL_rain_4 h.1 con (xFit.mk (by decide) (by decide) (by decide) (by decide)) (Nat.le_of_ble_eq_true rfl) (fun Ex q9 hq9 => ?_) (fun o9 q9 hq9 => ?_)
  · obtain ⟨rfl, hk1, hn9⟩ := hq9
    rcases xC_one hk1 hn9 with ⟨rfl, rfl⟩
    · refine VX_catch [] ⟨0, 8, 11, 13⟩ [] rfl (fun z hz => absurd hz List.not_mem_nil) rfl (by decide) mq_L_13 mz_iae dL_rain_11 (by decide) ?_
      show V E l _ _ _ (1, 6) 12 [] []
      refine V_iconst (v := 1) dL_rain_12 (by decide) ?_
      exact V_iret rfl dL_rain_13 (by decide) (by decide) (xH_f (k := 0) (by decide) hc)
  · obtain ⟨hk0, rfl, M1, L1, rfl, c1, f1⟩ := hq9
    show V E l _ _ _ (1, 6) 7 _ [.long A, .int 0, .ref u]
    refine V_last (j := 0) dL_rain_7 (by assumption) (by decide) (by decide) ?_
    refine V_goto (tgt := 14) dL_rain_8 (by decide) ?_
    refine V_iconst (v := 0) dL_rain_14 (by decide) ?_
    exact V_iret rfl dL_rain_15 (by decide) (by decide) (xH_t hk0 c1 f1 ho)
theorem c_L_drop {A : Int32} (h : rX n K G o) (hu : xIs n K u 11 1) (ho : u < o ∨ o + 288 < u) (hc : CRel M L o S) (p0 : Int32) (p1 : Int32) (con : Con E l Y_X5_drop [.ref o, .int p0, .int p1] (x, n, K, G, M, L) (xG k (some (.int A)) S' o x n K G M L) (xC k nsA (x, n, K, G, M, L))) : Con E l Y_L_drop [.ref o, .int p0, .int p1, .ref u] (x, n, K, G, M, L) (xH k A.toInt64 S' S o u n K G M L) xF := by
  obtain ⟨y1, y2, y3, r, y4, y5⟩ := cc_X5_drop
  refine Con.mkH 1 mp_L_drop (List.cons_ne_nil _ _) (ls := [some (.ref o), some (.int p0), some (.int p1), some (.ref u), none]) rfl (Nat.le_of_ble_eq_true rfl) ?_
  refine V_ald3 dL_drop_0 ?_
  refine V_iconst (v := 0) dL_drop_1 (by decide) ?_
  refine V_ald0 dL_drop_2 ?_
  refine V_ild1 dL_drop_3 ?_
  refine V_ild2 dL_drop_4 ?_
  refine V_try (Y' := Y_X5_drop) (As := [.int p0, .int p1]) (rest := [.int 0, .ref u]) ml_L_49 y1 y2 y3 y4 y5 dL_drop_5 h.1 con (xFit.mk (by decide) (by decide) (by decide) (by decide)) (Nat.le_of_ble_eq_true rfl) (fun Ex q9 hq9 => ?_) (fun o9 q9 hq9 => ?_)
  · obtain ⟨rfl, hk1, hn9⟩ := hq9
    rcases xC_one hk1 hn9 with ⟨rfl, rfl⟩
    · refine VX_catchW [] ⟨0, 10, 13, 13⟩ [] rfl (fun z hz => absurd hz List.not_mem_nil) rfl (by decide) mq_L_13 mz_iae dL_drop_13 (by decide) ?_
      show V E l _ _ _ (1, 6) 15 [] []
      refine V_iconst (v := 1) dL_drop_15 (by decide) ?_
      exact V_iret rfl dL_drop_16 (by decide) (by decide) (xH_f (k := 0) (by decide) hc)
  · obtain ⟨hk0, rfl, M1, L1, rfl, c1, f1⟩ := hq9
    show V E l _ _ _ (1, 6) 8 _ [.int A, .int 0, .ref u]
    refine V_i2l dL_drop_8 ?_
    refine V_last (j := 0) dL_drop_9 (by assumption) (by decide) (by decide) ?_
    refine V_goto (tgt := 17) dL_drop_10 (by decide) ?_
    refine V_iconst (v := 0) dL_drop_17 (by decide) ?_
    exact V_iret rfl dL_drop_18 (by decide) (by decide) (xH_t hk0 c1 f1 ho)
theorem c_L_pass {A : Int32} (h : rX n K G o) (hu : xIs n K u 11 1) (ho : u < o ∨ o + 288 < u) (hc : CRel M L o S) (p0 : Int32) (con : Con E l Y_X5_pass [.ref o, .int p0] (x, n, K, G, M, L) (xG k (some (.int A)) S' o x n K G M L) (xC k nsA (x, n, K, G, M, L))) : Con E l Y_L_pass [.ref o, .int p0, .ref u] (x, n, K, G, M, L) (xH k A.toInt64 S' S o u n K G M L) xF := by
  obtain ⟨y1, y2, y3, r, y4, y5⟩ := cc_X5_pass
  refine Con.mkH 1 mp_L_pass (List.cons_ne_nil _ _) (ls := [some (.ref o), some (.int p0), some (.ref u), none]) rfl (Nat.le_of_ble_eq_true rfl) ?_
  refine V_ald2 dL_pass_0 ?_
  refine V_iconst (v := 0) dL_pass_1 (by decide) ?_
  refine V_ald0 dL_pass_2 ?_
  refine V_ild1 dL_pass_3 ?_
  refine V_try (Y' := Y_X5_pass) (As := [.int p0]) (rest := [.int 0, .ref u]) ml_L_52 y1 y2 y3 y4 y5 dL_pass_4 h.1 con (xFit.mk (by decide) (by decide) (by decide) (by decide)) (Nat.le_of_ble_eq_true rfl) (fun Ex q9 hq9 => ?_) (fun o9 q9 hq9 => ?_)
  · obtain ⟨rfl, hk1, hn9⟩ := hq9
    rcases xC_one hk1 hn9 with ⟨rfl, rfl⟩
    · refine VX_catch [] ⟨0, 9, 12, 13⟩ [] rfl (fun z hz => absurd hz List.not_mem_nil) rfl (by decide) mq_L_13 mz_iae dL_pass_12 (by decide) ?_
      show V E l _ _ _ (1, 6) 13 [] []
      refine V_iconst (v := 1) dL_pass_13 (by decide) ?_
      exact V_iret rfl dL_pass_14 (by decide) (by decide) (xH_f (k := 0) (by decide) hc)
  · obtain ⟨hk0, rfl, M1, L1, rfl, c1, f1⟩ := hq9
    show V E l _ _ _ (1, 6) 7 _ [.int A, .int 0, .ref u]
    refine V_i2l dL_pass_7 ?_
    refine V_last (j := 0) dL_pass_8 (by assumption) (by decide) (by decide) ?_
    refine V_goto (tgt := 15) dL_pass_9 (by decide) ?_
    refine V_iconst (v := 0) dL_pass_15 (by decide) ?_
    exact V_iret rfl dL_pass_16 (by decide) (by decide) (xH_t hk0 c1 f1 ho)
theorem c_L_set {A : Int32} (h : rX n K G o) (hu : xIs n K u 11 1) (ho : u < o ∨ o + 288 < u) (hc : CRel M L o S) (p0 : Int32) (p1 : Int32) (con : Con E l Y_X5_set [.ref o, .int p0, .int p1] (x, n, K, G, M, L) (xG k (some (.int A)) S' o x n K G M L) (xC k nsA (x, n, K, G, M, L))) : Con E l Y_L_set [.ref o, .int p0, .int p1, .ref u] (x, n, K, G, M, L) (xH k A.toInt64 S' S o u n K G M L) xF := by
  obtain ⟨y1, y2, y3, r, y4, y5⟩ := cc_X5_set
  refine Con.mkH 1 mp_L_set (List.cons_ne_nil _ _) (ls := [some (.ref o), some (.int p0), some (.int p1), some (.ref u), none]) rfl (Nat.le_of_ble_eq_true rfl) ?_
  refine V_ald3 dL_set_0 ?_
  refine V_iconst (v := 0) dL_set_1 (by decide) ?_
  refine V_ald0 dL_set_2 ?_
  refine V_ild1 dL_set_3 ?_
  refine V_ild2 dL_set_4 ?_
  refine V_try (Y' := Y_X5_set) (As := [.int p0, .int p1]) (rest := [.int 0, .ref u]) ml_L_55 y1 y2 y3 y4 y5 dL_set_5 h.1 con (xFit.mk (by decide) (by decide) (by decide) (by decide)) (Nat.le_of_ble_eq_true rfl) (fun Ex q9 hq9 => ?_) (fun o9 q9 hq9 => ?_)
  · obtain ⟨rfl, hk1, hn9⟩ := hq9
    rcases xC_one hk1 hn9 with ⟨rfl, rfl⟩
    · refine VX_catchW [] ⟨0, 10, 13, 13⟩ [] rfl (fun z hz => absurd hz List.not_mem_nil) rfl (by decide) mq_L_13 mz_iae dL_set_13 (by decide) ?_
      show V E l _ _ _ (1, 6) 15 [] []
      refine V_iconst (v := 1) dL_set_15 (by decide) ?_
      exact V_iret rfl dL_set_16 (by decide) (by decide) (xH_f (k := 0) (by decide) hc)
  · obtain ⟨hk0, rfl, M1, L1, rfl, c1, f1⟩ := hq9
    show V E l _ _ _ (1, 6) 8 _ [.int A, .int 0, .ref u]
    refine V_i2l dL_set_8 ?_
    refine V_last (j := 0) dL_set_9 (by assumption) (by decide) (by decide) ?_
    refine V_goto (tgt := 17) dL_set_10 (by decide) ?_
    refine V_iconst (v := 0) dL_set_17 (by decide) ?_
    exact V_iret rfl dL_set_18 (by decide) (by decide) (xH_t hk0 c1 f1 ho)
theorem c_L_setBorder {A : Int32} (h : rX n K G o) (hu : xIs n K u 11 1) (ho : u < o ∨ o + 288 < u) (hc : CRel M L o S) (p0 : Int32) (p1 : Int32) (con : Con E l Y_X5_setBorder [.ref o, .int p0, .int p1] (x, n, K, G, M, L) (xG k (some (.int A)) S' o x n K G M L) (xC k nsIAS (x, n, K, G, M, L))) : Con E l Y_L_setBorder [.ref o, .int p0, .int p1, .ref u] (x, n, K, G, M, L) (xH k A.toInt64 S' S o u n K G M L) xF := by
  obtain ⟨y1, y2, y3, r, y4, y5⟩ := cc_X5_setBorder
  refine Con.mkH 1 mp_L_setBorder (List.cons_ne_nil _ _) (ls := [some (.ref o), some (.int p0), some (.int p1), some (.ref u), none]) rfl (Nat.le_of_ble_eq_true rfl) ?_
  refine V_ald3 dL_setBorder_0 ?_
  refine V_iconst (v := 0) dL_setBorder_1 (by decide) ?_
  refine V_ald0 dL_setBorder_2 ?_
  refine V_ild1 dL_setBorder_3 ?_
  refine V_ild2 dL_setBorder_4 ?_
  refine V_try (Y' := Y_X5_setBorder) (As := [.int p0, .int p1]) (rest := [.int 0, .ref u]) ml_L_58 y1 y2 y3 y4 y5 dL_setBorder_5 h.1 con (xFit.mk (by decide) (by decide) (by decide) (by decide)) (Nat.le_of_ble_eq_true rfl) (fun Ex q9 hq9 => ?_) (fun o9 q9 hq9 => ?_)
  · obtain ⟨rfl, hk1, hn9⟩ := hq9
    rcases xC_three hk1 hn9 with ⟨rfl, rfl⟩ | ⟨rfl, rfl⟩ | ⟨rfl, rfl⟩
    · refine VX_catchW [] ⟨0, 10, 13, 31⟩ [⟨0, 10, 17, 13⟩, ⟨0, 10, 21, 15⟩] rfl (fun z hz => absurd hz List.not_mem_nil) rfl (by decide) mq_L_31 mz_ioobe dL_setBorder_13 (by decide) ?_
      show V E l _ _ _ (1, 6) 15 [] []
      refine V_iconst (v := 1) dL_setBorder_15 (by decide) ?_
      exact V_iret rfl dL_setBorder_16 (by decide) (by decide) (xH_f (k := 0) (by decide) hc)
    · refine VX_catchW [⟨0, 10, 13, 31⟩] ⟨0, 10, 17, 13⟩ [⟨0, 10, 21, 15⟩] rfl (fun z hz => by rcases List.mem_singleton.mp hz with rfl; exact Or.inr ⟨by decide, _, mq_L_31, fun s h9 => by obtain ⟨-, -, -, -, -, -, -, -, -, -, -, n1, n2, n3⟩ := h9; exact n2⟩) rfl (by decide) mq_L_13 mz_iae dL_setBorder_17 (by decide) ?_
      show V E l _ _ _ (1, 6) 19 [] []
      refine V_iconst (v := 2) dL_setBorder_19 (by decide) ?_
      exact V_iret rfl dL_setBorder_20 (by decide) (by decide) (xH_f (k := 1) (by decide) hc)
    · refine VX_catchW [⟨0, 10, 13, 31⟩, ⟨0, 10, 17, 13⟩] ⟨0, 10, 21, 15⟩ [] rfl (fun z hz => by
        rcases List.mem_cons.mp hz with rfl | hz
        · exact Or.inr ⟨by decide, _, mq_L_31, fun s h9 => by obtain ⟨-, -, -, -, -, -, -, -, -, -, -, n1, n2, n3⟩ := h9; exact n3⟩
        · rcases List.mem_singleton.mp hz with rfl
          exact Or.inr ⟨by decide, _, mq_L_13, fun s h9 => by obtain ⟨-, -, -, -, -, -, -, -, -, -, -, n1, n2, n3⟩ := h9; exact n1⟩) rfl (by decide) mq_L_15 mz_ise dL_setBorder_21 (by decide) ?_
      show V E l _ _ _ (1, 6) 23 [] []
      refine V_iconst (v := 3) dL_setBorder_23 (by decide) ?_
      exact V_iret rfl dL_setBorder_24 (by decide) (by decide) (xH_f (k := 2) (by decide) hc)
  · obtain ⟨hk0, rfl, M1, L1, rfl, c1, f1⟩ := hq9
    show V E l _ _ _ (1, 6) 8 _ [.int A, .int 0, .ref u]
    refine V_i2l dL_setBorder_8 ?_
    refine V_last (j := 0) dL_setBorder_9 (by assumption) (by decide) (by decide) ?_
    refine V_goto (tgt := 25) dL_setBorder_10 (by decide) ?_
    refine V_iconst (v := 0) dL_setBorder_25 (by decide) ?_
    exact V_iret rfl dL_setBorder_26 (by decide) (by decide) (xH_t hk0 c1 f1 ho)
theorem c_L_undo {A : Int32} (h : rX n K G o) (hu : xIs n K u 11 1) (ho : u < o ∨ o + 288 < u) (hc : CRel M L o S)  (con : Con E l Y_X5_undo [.ref o] (x, n, K, G, M, L) (xG k (some (.int A)) S' o x n K G M L) (xC k nsS (x, n, K, G, M, L))) : Con E l Y_L_undo [.ref o, .ref u] (x, n, K, G, M, L) (xH k A.toInt64 S' S o u n K G M L) xF := by
  obtain ⟨y1, y2, y3, r, y4, y5⟩ := cc_X5_undo
  refine Con.mkH 1 mp_L_undo (List.cons_ne_nil _ _) (ls := [some (.ref o), some (.ref u), none]) rfl (Nat.le_of_ble_eq_true rfl) ?_
  refine V_ald1 dL_undo_0 ?_
  refine V_iconst (v := 0) dL_undo_1 (by decide) ?_
  refine V_ald0 dL_undo_2 ?_
  refine V_try (Y' := Y_X5_undo) (As := []) (rest := [.int 0, .ref u]) ml_L_61 y1 y2 y3 y4 y5 dL_undo_3 h.1 con (xFit.mk (by decide) (by decide) (by decide) (by decide)) (Nat.le_of_ble_eq_true rfl) (fun Ex q9 hq9 => ?_) (fun o9 q9 hq9 => ?_)
  · obtain ⟨rfl, hk1, hn9⟩ := hq9
    rcases xC_one hk1 hn9 with ⟨rfl, rfl⟩
    · refine VX_catch [] ⟨0, 8, 11, 15⟩ [] rfl (fun z hz => absurd hz List.not_mem_nil) rfl (by decide) mq_L_15 mz_ise dL_undo_11 (by decide) ?_
      show V E l _ _ _ (1, 6) 12 [] []
      refine V_iconst (v := 1) dL_undo_12 (by decide) ?_
      exact V_iret rfl dL_undo_13 (by decide) (by decide) (xH_f (k := 0) (by decide) hc)
  · obtain ⟨hk0, rfl, M1, L1, rfl, c1, f1⟩ := hq9
    show V E l _ _ _ (1, 6) 6 _ [.int A, .int 0, .ref u]
    refine V_i2l dL_undo_6 ?_
    refine V_last (j := 0) dL_undo_7 (by assumption) (by decide) (by decide) ?_
    refine V_goto (tgt := 14) dL_undo_8 (by decide) ?_
    refine V_iconst (v := 0) dL_undo_14 (by decide) ?_
    exact V_iret rfl dL_undo_15 (by decide) (by decide) (xH_t hk0 c1 f1 ho)
theorem c_L_wouldBe {A : Int32} (h : rX n K G o) (hu : xIs n K u 11 1) (ho : u < o ∨ o + 288 < u) (hc : CRel M L o S) (p0 : Int32) (p1 : Int32) (con : Con E l Y_X5_wouldBe [.ref o, .int p0, .int p1] (x, n, K, G, M, L) (xG k (some (.int A)) S' o x n K G M L) (xC k nsA (x, n, K, G, M, L))) : Con E l Y_L_wouldBe [.ref o, .int p0, .int p1, .ref u] (x, n, K, G, M, L) (xH k A.toInt64 S' S o u n K G M L) xF := by
  obtain ⟨y1, y2, y3, r, y4, y5⟩ := cc_X5_wouldBe
  refine Con.mkH 1 mp_L_wouldBe (List.cons_ne_nil _ _) (ls := [some (.ref o), some (.int p0), some (.int p1), some (.ref u), none]) rfl (Nat.le_of_ble_eq_true rfl) ?_
  refine V_ald3 dL_wouldBe_0 ?_
  refine V_iconst (v := 0) dL_wouldBe_1 (by decide) ?_
  refine V_ald0 dL_wouldBe_2 ?_
  refine V_ild1 dL_wouldBe_3 ?_
  refine V_ild2 dL_wouldBe_4 ?_
  refine V_try (Y' := Y_X5_wouldBe) (As := [.int p0, .int p1]) (rest := [.int 0, .ref u]) ml_L_64 y1 y2 y3 y4 y5 dL_wouldBe_5 h.1 con (xFit.mk (by decide) (by decide) (by decide) (by decide)) (Nat.le_of_ble_eq_true rfl) (fun Ex q9 hq9 => ?_) (fun o9 q9 hq9 => ?_)
  · obtain ⟨rfl, hk1, hn9⟩ := hq9
    rcases xC_one hk1 hn9 with ⟨rfl, rfl⟩
    · refine VX_catchW [] ⟨0, 10, 13, 13⟩ [] rfl (fun z hz => absurd hz List.not_mem_nil) rfl (by decide) mq_L_13 mz_iae dL_wouldBe_13 (by decide) ?_
      show V E l _ _ _ (1, 6) 15 [] []
      refine V_iconst (v := 1) dL_wouldBe_15 (by decide) ?_
      exact V_iret rfl dL_wouldBe_16 (by decide) (by decide) (xH_f (k := 0) (by decide) hc)
  · obtain ⟨hk0, rfl, M1, L1, rfl, c1, f1⟩ := hq9
    show V E l _ _ _ (1, 6) 8 _ [.int A, .int 0, .ref u]
    refine V_i2l dL_wouldBe_8 ?_
    refine V_last (j := 0) dL_wouldBe_9 (by assumption) (by decide) (by decide) ?_
    refine V_goto (tgt := 17) dL_wouldBe_10 (by decide) ?_
    refine V_iconst (v := 0) dL_wouldBe_17 (by decide) ?_
    exact V_iret rfl dL_wouldBe_18 (by decide) (by decide) (xH_t hk0 c1 f1 ho)
theorem c_L_leastSize {A : Int32} (h : rX n K G o) (hu : xIs n K u 11 1) (ho : u < o ∨ o + 288 < u) (hc : CRel M L o S) (p0 : Int32) (con : Con E l Y_X5_leastSize [.ref o, .int p0] (x, n, K, G, M, L) (xG k (some (.int A)) S' o x n K G M L) (xC k nsA (x, n, K, G, M, L))) : Con E l Y_L_leastSize [.ref o, .int p0, .ref u] (x, n, K, G, M, L) (xH k A.toInt64 S' S o u n K G M L) xF := by
  obtain ⟨y1, y2, y3, r, y4, y5⟩ := cc_X5_leastSize
  refine Con.mkH 1 mp_L_leastSize (List.cons_ne_nil _ _) (ls := [some (.ref o), some (.int p0), some (.ref u), none]) rfl (Nat.le_of_ble_eq_true rfl) ?_
  refine V_ald2 dL_leastSize_0 ?_
  refine V_iconst (v := 0) dL_leastSize_1 (by decide) ?_
  refine V_ald0 dL_leastSize_2 ?_
  refine V_ild1 dL_leastSize_3 ?_
  refine V_try (Y' := Y_X5_leastSize) (As := [.int p0]) (rest := [.int 0, .ref u]) ml_L_67 y1 y2 y3 y4 y5 dL_leastSize_4 h.1 con (xFit.mk (by decide) (by decide) (by decide) (by decide)) (Nat.le_of_ble_eq_true rfl) (fun Ex q9 hq9 => ?_) (fun o9 q9 hq9 => ?_)
  · obtain ⟨rfl, hk1, hn9⟩ := hq9
    rcases xC_one hk1 hn9 with ⟨rfl, rfl⟩
    · refine VX_catch [] ⟨0, 9, 12, 13⟩ [] rfl (fun z hz => absurd hz List.not_mem_nil) rfl (by decide) mq_L_13 mz_iae dL_leastSize_12 (by decide) ?_
      show V E l _ _ _ (1, 6) 13 [] []
      refine V_iconst (v := 1) dL_leastSize_13 (by decide) ?_
      exact V_iret rfl dL_leastSize_14 (by decide) (by decide) (xH_f (k := 0) (by decide) hc)
  · obtain ⟨hk0, rfl, M1, L1, rfl, c1, f1⟩ := hq9
    show V E l _ _ _ (1, 6) 7 _ [.int A, .int 0, .ref u]
    refine V_i2l dL_leastSize_7 ?_
    refine V_last (j := 0) dL_leastSize_8 (by assumption) (by decide) (by decide) ?_
    refine V_goto (tgt := 15) dL_leastSize_9 (by decide) ?_
    refine V_iconst (v := 0) dL_leastSize_15 (by decide) ?_
    exact V_iret rfl dL_leastSize_16 (by decide) (by decide) (xH_t hk0 c1 f1 ho)
theorem c_L_quietIn {A : Int32} (h : rX n K G o) (hu : xIs n K u 11 1) (ho : u < o ∨ o + 288 < u) (hc : CRel M L o S) (p0 : Int32) (con : Con E l Y_X5_quietIn [.ref o, .int p0] (x, n, K, G, M, L) (xG k (some (.int A)) S' o x n K G M L) (xC k nsA (x, n, K, G, M, L))) : Con E l Y_L_quietIn [.ref o, .int p0, .ref u] (x, n, K, G, M, L) (xH k A.toInt64 S' S o u n K G M L) xF := by
  obtain ⟨y1, y2, y3, r, y4, y5⟩ := cc_X5_quietIn
  refine Con.mkH 1 mp_L_quietIn (List.cons_ne_nil _ _) (ls := [some (.ref o), some (.int p0), some (.ref u), none]) rfl (Nat.le_of_ble_eq_true rfl) ?_
  refine V_ald2 dL_quietIn_0 ?_
  refine V_iconst (v := 0) dL_quietIn_1 (by decide) ?_
  refine V_ald0 dL_quietIn_2 ?_
  refine V_ild1 dL_quietIn_3 ?_
  refine V_try (Y' := Y_X5_quietIn) (As := [.int p0]) (rest := [.int 0, .ref u]) ml_L_70 y1 y2 y3 y4 y5 dL_quietIn_4 h.1 con (xFit.mk (by decide) (by decide) (by decide) (by decide)) (Nat.le_of_ble_eq_true rfl) (fun Ex q9 hq9 => ?_) (fun o9 q9 hq9 => ?_)
  · obtain ⟨rfl, hk1, hn9⟩ := hq9
    rcases xC_one hk1 hn9 with ⟨rfl, rfl⟩
    · refine VX_catch [] ⟨0, 9, 12, 13⟩ [] rfl (fun z hz => absurd hz List.not_mem_nil) rfl (by decide) mq_L_13 mz_iae dL_quietIn_12 (by decide) ?_
      show V E l _ _ _ (1, 6) 13 [] []
      refine V_iconst (v := 1) dL_quietIn_13 (by decide) ?_
      exact V_iret rfl dL_quietIn_14 (by decide) (by decide) (xH_f (k := 0) (by decide) hc)
  · obtain ⟨hk0, rfl, M1, L1, rfl, c1, f1⟩ := hq9
    show V E l _ _ _ (1, 6) 7 _ [.int A, .int 0, .ref u]
    refine V_i2l dL_quietIn_7 ?_
    refine V_last (j := 0) dL_quietIn_8 (by assumption) (by decide) (by decide) ?_
    refine V_goto (tgt := 15) dL_quietIn_9 (by decide) ?_
    refine V_iconst (v := 0) dL_quietIn_15 (by decide) ?_
    exact V_iret rfl dL_quietIn_16 (by decide) (by decide) (xH_t hk0 c1 f1 ho)
theorem c_L_replay {A : Int32} (h : rX n K G o) (hu : xIs n K u 11 1) (ho : u < o ∨ o + 288 < u) (hc : CRel M L o S) (p0 : Int32) (p1 : Int32) (p2 : Int32) (con : Con E l Y_X5_replay [.ref o, .int p0, .int p1, .int p2] (x, n, K, G, M, L) (xG k (some (.int A)) S' o x n K G M L) (xC k nsA (x, n, K, G, M, L))) : Con E l Y_L_replay [.ref o, .int p0, .int p1, .int p2, .ref u] (x, n, K, G, M, L) (xH k A.toInt64 S' S o u n K G M L) xF := by
  obtain ⟨y1, y2, y3, r, y4, y5⟩ := cc_X5_replay
  refine Con.mkH 1 mp_L_replay (List.cons_ne_nil _ _) (ls := [some (.ref o), some (.int p0), some (.int p1), some (.int p2), some (.ref u), none]) rfl (Nat.le_of_ble_eq_true rfl) ?_
  refine V_ald4 dL_replay_0 ?_
  refine V_iconst (v := 0) dL_replay_2 (by decide) ?_
  refine V_ald0 dL_replay_3 ?_
  refine V_ild1 dL_replay_4 ?_
  refine V_ild2 dL_replay_5 ?_
  refine V_ild3 dL_replay_6 ?_
  refine V_try (Y' := Y_X5_replay) (As := [.int p0, .int p1, .int p2]) (rest := [.int 0, .ref u]) ml_L_73 y1 y2 y3 y4 y5 dL_replay_7 h.1 con (xFit.mk (by decide) (by decide) (by decide) (by decide)) (Nat.le_of_ble_eq_true rfl) (fun Ex q9 hq9 => ?_) (fun o9 q9 hq9 => ?_)
  · obtain ⟨rfl, hk1, hn9⟩ := hq9
    rcases xC_one hk1 hn9 with ⟨rfl, rfl⟩
    · refine VX_catchW [] ⟨0, 12, 15, 13⟩ [] rfl (fun z hz => absurd hz List.not_mem_nil) rfl (by decide) mq_L_13 mz_iae dL_replay_15 (by decide) ?_
      show V E l _ _ _ (1, 6) 17 [] []
      refine V_iconst (v := 1) dL_replay_17 (by decide) ?_
      exact V_iret rfl dL_replay_18 (by decide) (by decide) (xH_f (k := 0) (by decide) hc)
  · obtain ⟨hk0, rfl, M1, L1, rfl, c1, f1⟩ := hq9
    show V E l _ _ _ (1, 6) 10 _ [.int A, .int 0, .ref u]
    refine V_i2l dL_replay_10 ?_
    refine V_last (j := 0) dL_replay_11 (by assumption) (by decide) (by decide) ?_
    refine V_goto (tgt := 19) dL_replay_12 (by decide) ?_
    refine V_iconst (v := 0) dL_replay_19 (by decide) ?_
    exact V_iret rfl dL_replay_20 (by decide) (by decide) (xH_t hk0 c1 f1 ho)
theorem c_L_bestWindow {A : Int32} (h : rX n K G o) (hu : xIs n K u 11 1) (ho : u < o ∨ o + 288 < u) (hc : CRel M L o S) (p0 : Int32) (con : Con E l Y_X5_bestWindow [.ref o, .int p0] (x, n, K, G, M, L) (xG k (some (.int A)) S' o x n K G M L) (xC k nsA (x, n, K, G, M, L))) : Con E l Y_L_bestWindow [.ref o, .int p0, .ref u] (x, n, K, G, M, L) (xH k A.toInt64 S' S o u n K G M L) xF := by
  obtain ⟨y1, y2, y3, r, y4, y5⟩ := cc_X5_bestWindow
  refine Con.mkH 1 mp_L_bestWindow (List.cons_ne_nil _ _) (ls := [some (.ref o), some (.int p0), some (.ref u), none]) rfl (Nat.le_of_ble_eq_true rfl) ?_
  refine V_ald2 dL_bestWindow_0 ?_
  refine V_iconst (v := 0) dL_bestWindow_1 (by decide) ?_
  refine V_ald0 dL_bestWindow_2 ?_
  refine V_ild1 dL_bestWindow_3 ?_
  refine V_try (Y' := Y_X5_bestWindow) (As := [.int p0]) (rest := [.int 0, .ref u]) ml_L_77 y1 y2 y3 y4 y5 dL_bestWindow_4 h.1 con (xFit.mk (by decide) (by decide) (by decide) (by decide)) (Nat.le_of_ble_eq_true rfl) (fun Ex q9 hq9 => ?_) (fun o9 q9 hq9 => ?_)
  · obtain ⟨rfl, hk1, hn9⟩ := hq9
    rcases xC_one hk1 hn9 with ⟨rfl, rfl⟩
    · refine VX_catch [] ⟨0, 9, 12, 13⟩ [] rfl (fun z hz => absurd hz List.not_mem_nil) rfl (by decide) mq_L_13 mz_iae dL_bestWindow_12 (by decide) ?_
      show V E l _ _ _ (1, 6) 13 [] []
      refine V_iconst (v := 1) dL_bestWindow_13 (by decide) ?_
      exact V_iret rfl dL_bestWindow_14 (by decide) (by decide) (xH_f (k := 0) (by decide) hc)
  · obtain ⟨hk0, rfl, M1, L1, rfl, c1, f1⟩ := hq9
    show V E l _ _ _ (1, 6) 7 _ [.int A, .int 0, .ref u]
    refine V_i2l dL_bestWindow_7 ?_
    refine V_last (j := 0) dL_bestWindow_8 (by assumption) (by decide) (by decide) ?_
    refine V_goto (tgt := 15) dL_bestWindow_9 (by decide) ?_
    refine V_iconst (v := 0) dL_bestWindow_15 (by decide) ?_
    exact V_iret rfl dL_bestWindow_16 (by decide) (by decide) (xH_t hk0 c1 f1 ho)
theorem c_L_runScript {A : Int32} (h : rX n K G o) (hu : xIs n K u 11 1) (ho : u < o ∨ o + 288 < u) (hc : CRel M L o S) (p0 : Int32) (p1 : Int64) (con : Con E l Y_X5_runScript [.ref o, .int p0, .long p1] (x, n, K, G, M, L) (xG k (some (.int A)) S' o x n K G M L) (xC k nsA (x, n, K, G, M, L))) : Con E l Y_L_runScript [.ref o, .int p0, .long p1, .ref u] (x, n, K, G, M, L) (xH k A.toInt64 S' S o u n K G M L) xF := by
  obtain ⟨y1, y2, y3, r, y4, y5⟩ := cc_X5_runScript
  refine Con.mkH 1 mp_L_runScript (List.cons_ne_nil _ _) (ls := [some (.ref o), some (.int p0), some (.long p1), none, some (.ref u), none]) rfl (Nat.le_of_ble_eq_true rfl) ?_
  refine V_ald4 dL_runScript_0 ?_
  refine V_iconst (v := 0) dL_runScript_2 (by decide) ?_
  refine V_ald0 dL_runScript_3 ?_
  refine V_ild1 dL_runScript_4 ?_
  refine V_lld2 dL_runScript_5 ?_
  refine V_try (Y' := Y_X5_runScript) (As := [.int p0, .long p1]) (rest := [.int 0, .ref u]) ml_L_80 y1 y2 y3 y4 y5 dL_runScript_6 h.1 con (xFit.mk (by decide) (by decide) (by decide) (by decide)) (Nat.le_of_ble_eq_true rfl) (fun Ex q9 hq9 => ?_) (fun o9 q9 hq9 => ?_)
  · obtain ⟨rfl, hk1, hn9⟩ := hq9
    rcases xC_one hk1 hn9 with ⟨rfl, rfl⟩
    · refine VX_catchW [] ⟨0, 11, 14, 13⟩ [] rfl (fun z hz => absurd hz List.not_mem_nil) rfl (by decide) mq_L_13 mz_iae dL_runScript_14 (by decide) ?_
      show V E l _ _ _ (1, 6) 16 [] []
      refine V_iconst (v := 1) dL_runScript_16 (by decide) ?_
      exact V_iret rfl dL_runScript_17 (by decide) (by decide) (xH_f (k := 0) (by decide) hc)
  · obtain ⟨hk0, rfl, M1, L1, rfl, c1, f1⟩ := hq9
    show V E l _ _ _ (1, 6) 9 _ [.int A, .int 0, .ref u]
    refine V_i2l dL_runScript_9 ?_
    refine V_last (j := 0) dL_runScript_10 (by assumption) (by decide) (by decide) ?_
    refine V_goto (tgt := 18) dL_runScript_11 (by decide) ?_
    refine V_iconst (v := 0) dL_runScript_18 (by decide) ?_
    exact V_iret rfl dL_runScript_19 (by decide) (by decide) (xH_t hk0 c1 f1 ho)
theorem c_L_simulate {A : Int32} (h : rX n K G o) (hu : xIs n K u 11 1) (ho : u < o ∨ o + 288 < u) (hc : CRel M L o S) (p0 : Int64) (p1 : Int32) (con : Con E l Y_X5_simulate [.ref o, .long p0, .int p1] (x, n, K, G, M, L) (xG k (some (.int A)) S' o x n K G M L) (xC k nsA (x, n, K, G, M, L))) : Con E l Y_L_simulate [.ref o, .long p0, .int p1, .ref u] (x, n, K, G, M, L) (xH k A.toInt64 S' S o u n K G M L) xF := by
  obtain ⟨y1, y2, y3, r, y4, y5⟩ := cc_X5_simulate
  refine Con.mkH 1 mp_L_simulate (List.cons_ne_nil _ _) (ls := [some (.ref o), some (.long p0), none, some (.int p1), some (.ref u), none]) rfl (Nat.le_of_ble_eq_true rfl) ?_
  refine V_ald4 dL_simulate_0 ?_
  refine V_iconst (v := 0) dL_simulate_2 (by decide) ?_
  refine V_ald0 dL_simulate_3 ?_
  refine V_lld1 dL_simulate_4 ?_
  refine V_ild3 dL_simulate_5 ?_
  refine V_try (Y' := Y_X5_simulate) (As := [.long p0, .int p1]) (rest := [.int 0, .ref u]) ml_L_84 y1 y2 y3 y4 y5 dL_simulate_6 h.1 con (xFit.mk (by decide) (by decide) (by decide) (by decide)) (Nat.le_of_ble_eq_true rfl) (fun Ex q9 hq9 => ?_) (fun o9 q9 hq9 => ?_)
  · obtain ⟨rfl, hk1, hn9⟩ := hq9
    rcases xC_one hk1 hn9 with ⟨rfl, rfl⟩
    · refine VX_catchW [] ⟨0, 11, 14, 13⟩ [] rfl (fun z hz => absurd hz List.not_mem_nil) rfl (by decide) mq_L_13 mz_iae dL_simulate_14 (by decide) ?_
      show V E l _ _ _ (1, 6) 16 [] []
      refine V_iconst (v := 1) dL_simulate_16 (by decide) ?_
      exact V_iret rfl dL_simulate_17 (by decide) (by decide) (xH_f (k := 0) (by decide) hc)
  · obtain ⟨hk0, rfl, M1, L1, rfl, c1, f1⟩ := hq9
    show V E l _ _ _ (1, 6) 9 _ [.int A, .int 0, .ref u]
    refine V_i2l dL_simulate_9 ?_
    refine V_last (j := 0) dL_simulate_10 (by assumption) (by decide) (by decide) ?_
    refine V_goto (tgt := 18) dL_simulate_11 (by decide) ?_
    refine V_iconst (v := 0) dL_simulate_18 (by decide) ?_
    exact V_iret rfl dL_simulate_19 (by decide) (by decide) (xH_t hk0 c1 f1 ho)
theorem c_L_save {A : Int32} (h : rX n K G o) (hu : xIs n K u 11 1) (ho : u < o ∨ o + 288 < u) (hc : CRel M L o S) (p0 : Int32) (con : Con E l Y_X5_save [.ref o, .int p0] (x, n, K, G, M, L) (xG k (some (.int A)) S' o x n K G M L) (xC k nsI (x, n, K, G, M, L))) : Con E l Y_L_save [.ref o, .int p0, .ref u] (x, n, K, G, M, L) (xH k A.toInt64 S' S o u n K G M L) xF := by
  obtain ⟨y1, y2, y3, r, y4, y5⟩ := cc_X5_save
  refine Con.mkH 1 mp_L_save (List.cons_ne_nil _ _) (ls := [some (.ref o), some (.int p0), some (.ref u), none]) rfl (Nat.le_of_ble_eq_true rfl) ?_
  refine V_ald2 dL_save_0 ?_
  refine V_iconst (v := 0) dL_save_1 (by decide) ?_
  refine V_ald0 dL_save_2 ?_
  refine V_ild1 dL_save_3 ?_
  refine V_try (Y' := Y_X5_save) (As := [.int p0]) (rest := [.int 0, .ref u]) ml_L_88 y1 y2 y3 y4 y5 dL_save_4 h.1 con (xFit.mk (by decide) (by decide) (by decide) (by decide)) (Nat.le_of_ble_eq_true rfl) (fun Ex q9 hq9 => ?_) (fun o9 q9 hq9 => ?_)
  · obtain ⟨rfl, hk1, hn9⟩ := hq9
    rcases xC_one hk1 hn9 with ⟨rfl, rfl⟩
    · refine VX_catch [] ⟨0, 9, 12, 31⟩ [] rfl (fun z hz => absurd hz List.not_mem_nil) rfl (by decide) mq_L_31 mz_ioobe dL_save_12 (by decide) ?_
      show V E l _ _ _ (1, 6) 13 [] []
      refine V_iconst (v := 1) dL_save_13 (by decide) ?_
      exact V_iret rfl dL_save_14 (by decide) (by decide) (xH_f (k := 0) (by decide) hc)
  · obtain ⟨hk0, rfl, M1, L1, rfl, c1, f1⟩ := hq9
    show V E l _ _ _ (1, 6) 7 _ [.int A, .int 0, .ref u]
    refine V_i2l dL_save_7 ?_
    refine V_last (j := 0) dL_save_8 (by assumption) (by decide) (by decide) ?_
    refine V_goto (tgt := 15) dL_save_9 (by decide) ?_
    refine V_iconst (v := 0) dL_save_15 (by decide) ?_
    exact V_iret rfl dL_save_16 (by decide) (by decide) (xH_t hk0 c1 f1 ho)
theorem c_L_restore {A : Int32} (h : rX n K G o) (hu : xIs n K u 11 1) (ho : u < o ∨ o + 288 < u) (hc : CRel M L o S) (p0 : Int32) (con : Con E l Y_X5_restore [.ref o, .int p0] (x, n, K, G, M, L) (xG k (some (.int A)) S' o x n K G M L) (xC k nsIS (x, n, K, G, M, L))) : Con E l Y_L_restore [.ref o, .int p0, .ref u] (x, n, K, G, M, L) (xH k A.toInt64 S' S o u n K G M L) xF := by
  obtain ⟨y1, y2, y3, r, y4, y5⟩ := cc_X5_restore
  refine Con.mkH 1 mp_L_restore (List.cons_ne_nil _ _) (ls := [some (.ref o), some (.int p0), some (.ref u), none]) rfl (Nat.le_of_ble_eq_true rfl) ?_
  refine V_ald2 dL_restore_0 ?_
  refine V_iconst (v := 0) dL_restore_1 (by decide) ?_
  refine V_ald0 dL_restore_2 ?_
  refine V_ild1 dL_restore_3 ?_
  refine V_try (Y' := Y_X5_restore) (As := [.int p0]) (rest := [.int 0, .ref u]) ml_L_91 y1 y2 y3 y4 y5 dL_restore_4 h.1 con (xFit.mk (by decide) (by decide) (by decide) (by decide)) (Nat.le_of_ble_eq_true rfl) (fun Ex q9 hq9 => ?_) (fun o9 q9 hq9 => ?_)
  · obtain ⟨rfl, hk1, hn9⟩ := hq9
    rcases xC_two hk1 hn9 with ⟨rfl, rfl⟩ | ⟨rfl, rfl⟩
    · refine VX_catch [] ⟨0, 9, 12, 31⟩ [⟨0, 9, 15, 15⟩] rfl (fun z hz => absurd hz List.not_mem_nil) rfl (by decide) mq_L_31 mz_ioobe dL_restore_12 (by decide) ?_
      show V E l _ _ _ (1, 6) 13 [] []
      refine V_iconst (v := 1) dL_restore_13 (by decide) ?_
      exact V_iret rfl dL_restore_14 (by decide) (by decide) (xH_f (k := 0) (by decide) hc)
    · refine VX_catch [⟨0, 9, 12, 31⟩] ⟨0, 9, 15, 15⟩ [] rfl (fun z hz => by rcases List.mem_singleton.mp hz with rfl; exact Or.inr ⟨by decide, _, mq_L_31, fun s h9 => by obtain ⟨-, -, -, -, -, -, -, -, -, -, -, n1, n2, n3⟩ := h9; exact n3⟩) rfl (by decide) mq_L_15 mz_ise dL_restore_15 (by decide) ?_
      show V E l _ _ _ (1, 6) 16 [] []
      refine V_iconst (v := 2) dL_restore_16 (by decide) ?_
      exact V_iret rfl dL_restore_17 (by decide) (by decide) (xH_f (k := 1) (by decide) hc)
  · obtain ⟨hk0, rfl, M1, L1, rfl, c1, f1⟩ := hq9
    show V E l _ _ _ (1, 6) 7 _ [.int A, .int 0, .ref u]
    refine V_i2l dL_restore_7 ?_
    refine V_last (j := 0) dL_restore_8 (by assumption) (by decide) (by decide) ?_
    refine V_goto (tgt := 18) dL_restore_9 (by decide) ?_
    refine V_iconst (v := 0) dL_restore_18 (by decide) ?_
    exact V_iret rfl dL_restore_19 (by decide) (by decide) (xH_t hk0 c1 f1 ho)
end C73

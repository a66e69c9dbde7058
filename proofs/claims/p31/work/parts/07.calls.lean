/-! ===== the V layer: contracts, calls, returns, throws ===== -/
abbrev xP : Type := Option Value → xS → Prop
abbrev xPX : Type := String → xS → Prop
def xF : xPX := fun _ _ => False
/-- the answer o, and the state q' -/
def xR (o : Option Value) (q' : xS) : xP := fun o2 q2 => o2 = o ∧ q2 = q'
def xQc (E : xEnv) (P : xP) : Array Value → State → Outcome → State → Prop := fun _ st oc t => (∃ (o : Option Value) (q : xS), oc = .returned (o.map (xv E)) ∧ P o q ∧ xRel E q t.heap) ∧ va_F (xA E) st t
def xXC (E : xEnv) (PX : xPX) : String → State → State → Prop := fun Ex st t => (∃ q, PX Ex q ∧ xRel E q t.heap) ∧ va_F (xA E) st t
def xhd (Y : xY) : Cond := if Y.2.2.2.2.2 = [] then Cond.code Y.1 Y.2.1 Y.2.2.1 Y.2.2.2.1 else Cond.codeWith Y.1 Y.2.1 Y.2.2.1 Y.2.2.2.1 Y.2.2.2.2.2
def xws (Y : xY) : List Cond := xhd Y :: xTT
def xPre (E : xEnv) (As : List Value) (q : xS) : Array Value → State → Prop := va_Pc (As.map (xv E)) (fun U => xKn E U ∧ xRel E q U.heap)
def Con (E : xEnv) (l : Launch) (Y : xY) (As : List Value) (q : xS) (P : xP) (PX : xPX) : Prop :=
  vx_Met l Y.1 (xws Y) Y.2.2.2.2.1 (xPre E As q) (xQc E P) (xXC E PX) Y.2.2.2.2.1.cells Y.2.2.2.2.1.slots (xA E)
def xQm (E : xEnv) (Y : xY) (P : xP) (PX : xPX) : xQ := fun s args below => vx_MQ below (xQc E P) (xXC E PX) args s Y.2.2.2.2.1.cells Y.2.2.2.2.1.slots (xA E)
theorem Con.met {E : xEnv} {l : Launch} {Y : xY} {As : List Value} {q : xS} {P : xP} (h : Con E l Y As q P xF) : Met l Y.1 (xws Y) Y.2.2.2.2.1 (xPre E As q) (xQc E P) Y.2.2.2.2.1.cells Y.2.2.2.2.1.slots (xA E) := by
  intro p e h1 h2 h3 s m args below h4 h5 h6 h7
  obtain ⟨n, o, g1, g2, g3, g4⟩ := h p e h1 h2 h3 s m args below h4 h5 h6 h7
  refine ⟨n, o, g1, g2, g3, ?_⟩
  rcases g4 with g | ⟨z, -, Ex, ce, Ls, ⟨⟨q', hF, -⟩, -⟩, -⟩
  · exact g
  · exact absurd hF id
theorem Con.weak {E : xEnv} {l : Launch} {Y : xY} {As : List Value} {q : xS} {P P' : xP} {PX PX' : xPX} (h : Con E l Y As q P PX) (hP : ∀ o q', P o q' → P' o q') (hX : ∀ Ex q', PX Ex q' → PX' Ex q') : Con E l Y As q P' PX' := by
  intro p e h1 h2 h3 s m args below h4 h5 h6 h7
  obtain ⟨n, o, g1, g2, g3, g4⟩ := h p e h1 h2 h3 s m args below h4 h5 h6 h7
  refine ⟨n, o, g1, g2, g3, ?_⟩
  rcases g4 with ⟨⟨⟨o2, q2, a1, a2, a3⟩, a4⟩, g⟩ | ⟨z, e1, Ex, ce, Ls, ⟨⟨q', b1, b2⟩, b3⟩, g⟩
  · exact Or.inl ⟨⟨⟨o2, q2, a1, hP _ _ a2, a3⟩, a4⟩, g⟩
  · exact Or.inr ⟨z, e1, Ex, ce, Ls, ⟨⟨q', hX _ _ b1, b2⟩, b3⟩, g⟩
theorem xPre.blind {E : xEnv} {As : List Value} {q : xS} : FrameBlind (xPre E As q) := fun a U g mk h => ⟨h.1, h.2.1.calling g mk a, h.2.2⟩
/-- the locals with which a method begins -/
def xEnt : List Value → List (Option Value)
  | [] => []
  | v :: vs => some v :: ((if v.category = 2 then [none] else []) ++ xEnt vs)
theorem xEnt_args {E : xEnv} : ∀ (vs : List Value) (i0 i : Nat) (v : Value), (xEnt vs)[i]? = some (some v) → (i0 + i, xv E v) ∈ lv_args i0 (vs.map (xv E))
  | [], _, i, v, h => by simp [xEnt] at h
  | w :: vs, i0, i, v, h => by
    show _ ∈ (i0, xv E w) :: lv_args (if (xv E w).category = 2 then i0 + 2 else i0 + 1) (vs.map (xv E))
    rw [xv_cat]
    cases i with
    | zero => simp [xEnt] at h; subst h; exact List.mem_cons_self
    | succ i =>
      refine List.mem_cons_of_mem _ ?_
      by_cases hc : w.category = 2
      · rw [if_pos hc]
        cases i with
        | zero => simp [xEnt, hc] at h
        | succ i =>
          have := xEnt_args (E := E) vs (i0 + 2) i v (by simpa [xEnt, hc] using h)
          rwa [show i0 + 2 + i = i0 + (i + 1 + 1) by omega] at this
      · rw [if_neg hc]
        have := xEnt_args (E := E) vs (i0 + 1) i v (by simpa [xEnt, hc] using h)
        rwa [show i0 + 1 + i = i0 + (i + 1) by omega] at this
theorem xEntry {E : xEnv} {vs : List Value} {n k : Nat} {ls : List (Option Value)} (hn : (lg_sl (vs.map (xv E))).length ≤ n) (hls : ls = xEnt vs ++ List.replicate k none) :
    xHas E ((lg_sl (vs.map (xv E)) ++ List.replicate (n - (lg_sl (vs.map (xv E))).length) Slot.unset).toArray) n ls := by
  have hl := lv_entry (vs.map (xv E)) hn
  refine ⟨hl.1, hl.2.1, fun i v hv => ?_⟩
  have h2 : (xEnt vs)[i]? = some (some v) := by
    rw [hls] at hv
    by_cases h : i < (xEnt vs).length
    · rwa [List.getElem?_append_left h] at hv
    · rw [List.getElem?_append_right (by omega)] at hv
      have := List.eq_of_mem_replicate (List.mem_of_getElem? hv)
      cases this
  have h3 := hl.2.2 _ (xEnt_args (E := E) vs 0 i v h2)
  simpa using h3
theorem Con.mk {E : xEnv} {l : Launch} {Y : xY} {As : List Value} {q : xS} {P : xP} {PX : xPX} {ls : List (Option Value)} (k : Nat) (hY : plainName Y.1.cls = true) (ht : Y.2.2.2.2.2 = []) (hls : ls = xEnt As ++ List.replicate k none) (hn : (lg_sl (As.map (xv E))).length ≤ Y.2.2.1)
    (body : V E l Y (xQm E Y P PX) q (0, 0) 0 ls []) : Con E l Y As q P PX := by
  have hw : xws Y = Cond.code Y.1 Y.2.1 Y.2.2.1 Y.2.2.2.1 :: xTT := by unfold xws xhd; rw [if_pos ht]
  refine vx_ofW hY hw ?_
  intro p e s m args below meth c s₁ B hml htab hP
  obtain ⟨rfl, hK, hR⟩ := hP
  have hts := atoms_spec (ws := xws Y) B.pre
  rw [lg_entry_eq]
  exact body p e s m _ below meth c ⟨B.exec, B.bytes, hml, B.returns, B.notSynchronized, (name_of_methodNamed B.named B.method).1, findClass_of_methodNamed B.named, fun w hw => hts w (List.mem_cons_of_mem _ hw), hK, by
      rw [ht]
      cases hc : c.exceptionTable.toList with
      | nil => rfl
      | cons a b => exact absurd (htab a (by rw [hc]; exact List.mem_cons_self)) id⟩ s.heap [] _ (xEntry hn hls) hR va_S.rf
theorem Con.mkH {E : xEnv} {l : Launch} {Y : xY} {As : List Value} {q : xS} {P : xP} {PX : xPX} {ls : List (Option Value)} (k : Nat) (hY : plainName Y.1.cls = true) (ht : Y.2.2.2.2.2 ≠ []) (hls : ls = xEnt As ++ List.replicate k none) (hn : (lg_sl (As.map (xv E))).length ≤ Y.2.2.1)
    (body : V E l Y (xQm E Y P PX) q (0, 0) 0 ls []) : Con E l Y As q P PX := by
  have hw : xws Y = Cond.codeWith Y.1 Y.2.1 Y.2.2.1 Y.2.2.2.1 Y.2.2.2.2.2 :: xTT := by unfold xws xhd; rw [if_neg ht]
  refine vx_ofWH hY hw ?_
  intro p e s m args below meth c s₁ B hml hP
  obtain ⟨rfl, hK, hR⟩ := hP
  have hts := atoms_spec (ws := xws Y) B.pre
  rw [lg_entry_eq]
  exact body p e s m _ below meth c ⟨B.exec, B.bytes, hml, B.returns, B.notSynchronized, (name_of_methodNamed B.named B.method).1, findClass_of_methodNamed B.named, fun w hw => hts w (List.mem_cons_of_mem _ hw), hK, vx_table (x := Y.1) B (hts _ (by rw [hw]; exact List.mem_cons_self))⟩ s.heap [] _ (xEntry hn hls) hR va_S.rf
section VC
variable {E : xEnv} {l : Launch} {Y : xY} {Q : xQ} {q : xS} {cs : Nat × Nat} {pc : Nat} {ls : List (Option Value)} {st : List Value} {P : xP} {PX : xPX}
/-! returns -/
theorem V_iret {r : Int32} (hr : Y.2.2.2.1 = some .int) (d : decode Y.2.1 pc = .ok (.ireturn, 1)) (h1 : cs.1 ≤ Y.2.2.2.2.1.cells) (h2 : cs.2 ≤ Y.2.2.2.2.1.slots) (hP : P (some (.int r)) q) : V E l Y (xQm E Y P PX) q cs pc ls [.int r] := by
  intro p e s m args below meth c C H locs lc hl hR hS
  refine vx_ret (W.widen h1 h2 (W.iret C.1 C.2.1 (C.2.2.2.1.trans hr) (fun t ht hW => ⟨⟨some (.int r), q, rfl, hP, by rw [ht]; exact hR⟩, hS.F ht⟩) hS.2.2 d C.2.2.2.2.1))
theorem V_zret {r : Int32} (hr : Y.2.2.2.1 = some .boolean) (d : decode Y.2.1 pc = .ok (.ireturn, 1)) (hv : r = 0 ∨ r = 1) (h1 : cs.1 ≤ Y.2.2.2.2.1.cells) (h2 : cs.2 ≤ Y.2.2.2.2.1.slots) (hP : P (some (.int r)) q) : V E l Y (xQm E Y P PX) q cs pc ls [.int r] := by
  intro p e s m args below meth c C H locs lc hl hR hS
  refine vx_ret (W.widen h1 h2 (W.zret (ty := .boolean) C.1 C.2.1 (C.2.2.2.1.trans hr) (by rcases hv with rfl | rfl <;> rfl) (fun t ht hW => ⟨⟨some (.int r), q, rfl, hP, by rw [ht]; exact hR⟩, hS.F ht⟩) hS.2.2 d C.2.2.2.2.1))
theorem V_lret {r : Int64} (hr : Y.2.2.2.1 = some .long) (d : decode Y.2.1 pc = .ok (.lreturn, 1)) (h1 : cs.1 ≤ Y.2.2.2.2.1.cells) (h2 : cs.2 ≤ Y.2.2.2.2.1.slots) (hP : P (some (.long r)) q) : V E l Y (xQm E Y P PX) q cs pc ls [.long r] := by
  intro p e s m args below meth c C H locs lc hl hR hS
  refine vx_ret (W.widen h1 h2 (W.lret C.1 C.2.1 (C.2.2.2.1.trans hr) (fun t ht hW => ⟨⟨some (.long r), q, rfl, hP, by rw [ht]; exact hR⟩, hS.F ht⟩) hS.2.2 d C.2.2.2.2.1))
theorem V_vret (hr : Y.2.2.2.1 = none) (d : decode Y.2.1 pc = .ok (.return_, 1)) (h1 : cs.1 ≤ Y.2.2.2.2.1.cells) (h2 : cs.2 ≤ Y.2.2.2.2.1.slots) (hP : P none q) : V E l Y (xQm E Y P PX) q cs pc ls [] := by
  intro p e s m args below meth c C H locs lc hl hR hS
  refine vx_ret (W.widen h1 h2 (W.vret C.1 C.2.1 (C.2.2.2.1.trans hr) (fun t ht hW => ⟨⟨none, q, rfl, hP, by rw [ht]; exact hR⟩, hS.F ht⟩) hS.2.2 d C.2.2.2.2.1))
/-! calls -/
theorem xcall {p : Program} {e : Env} {R : Room} {s : State} {m : MethodId} {args : Array Value} {below : List Frame} {meth : Method} {c : Code} {H : Heap} {locs : List Loc} {cells slots mc ms : Nat} {Q' : State → Prop} {lc : Array Slot} {st0 rest : List Value} {a : Array Value}
    (hr : va_Run p l e R s m args below meth c H locs cells slots mc ms (F0 m pc lc st0) rest (xQc E P a) (xA E)) (hS : va_S (xA E) s.heap H locs)
    (kk : ∀ (o : Option Value) (q' : xS) (H1 : Heap) (locs1 : List Loc), P o q' → xRel E q' H1 → va_S (xA E) s.heap H1 locs1 → W p l e R s m args below meth c H1 locs1 (cells + mc) (slots + ms) Q' (F0 m (pc + 3) lc ((o.map (xv E)).toList ++ rest))) : W p l e R s m args below meth c H locs cells slots Q' (F0 m pc lc st0) := by
  intro T hT X
  obtain ⟨v, st₀, t, T', L, h0, X', hL, e1, e2, ⟨⟨o, q', hv, hp, hq⟩, hz, hk⟩, sg⟩ := hr T hT X
  cases hv
  rw [h0] at hz hk
  obtain ⟨t2, a1, b1⟩ := kk o q' T'.heap (locs ++ L) hp (by rw [e1]; exact hq)
    ⟨Nat.le_trans hS.1 (by rw [e1]; exact hz), fun z h1 h2 => by rw [e1, hk z (Nat.lt_of_lt_of_le h1 hS.1) h2]; exact hS.2.1 z h1 h2, fun z hz => by
      rcases List.mem_append.mp hz with h | h
      · exact hS.2.2 z h
      · exact hL z h⟩ T' rfl X'
  exact ⟨t2, sg t2 a1, b1⟩
/-- a method without handlers that can be called -/
def xYok (Y' : xY) (n : Nat) : Prop := Y'.2.2.2.2.2 = [] ∧ Cond.code Y'.1 Y'.2.1 Y'.2.2.1 Y'.2.2.2.1 ∈ xTT ∧ Cond.initialized Y'.1.cls ∈ xTT ∧
  (Y'.1.cls ≠ "java/lang/invoke/MethodHandle" ∧ Y'.1.cls ≠ "java/lang/invoke/VarHandle" ∧ (parseMethodDescriptor Y'.1.desc).map (fun d => d.parameters.length) = some n)
def xLk (own : String) (idx : Nat) (Y' : xY) : Prop := Cond.methodLink own idx Y'.1 ∈ xTT ∨ ∃ host : String, Cond.methodLinkNest own idx Y'.1 host ∈ xTT
def xFit (Y Y' : xY) (cs : Nat × Nat) : Prop := Y'.2.2.2.2.1.frames + 1 ≤ Y.2.2.2.2.1.frames ∧ 8 + (Y'.2.2.1 + 11) + Y'.2.2.2.2.1.locals ≤ Y.2.2.2.2.1.locals ∧ cs.1 + Y'.2.2.2.2.1.cells ≤ Y.2.2.2.2.1.cells ∧ cs.2 + Y'.2.2.2.2.1.slots ≤ Y.2.2.2.2.1.slots
theorem xYok.ws {Y' : xY} {n : Nat} (h : xYok Y' n) {args : Array Value} {s : State} (hts : ∀ w ∈ xTT, w.before args s = true) : ∀ w ∈ xws Y', ∀ (a' : Array Value) (U : State), s.WarmedH U.vm → w.before a' U = true := by
  intro w hw a' U hW
  rcases List.mem_cons.mp hw with rfl | hw
  · unfold xhd; rw [if_pos h.1]; exact xTT_at hW hts _ h.2.1
  · exact xTT_at hW hts _ hw
theorem xYok.mem {Y' : xY} {n : Nat} (h : xYok Y' n) : Cond.code Y'.1 Y'.2.1 Y'.2.2.1 Y'.2.2.2.1 ∈ xws Y' := by unfold xws xhd; rw [if_pos h.1]; exact List.mem_cons_self
theorem xYok.len {Y' : xY} {n : Nat} (h : xYok Y' n) : ∀ sig, parseMethodDescriptor Y'.1.desc = some sig → n = sig.parameters.length := by
  intro sig hs
  have h2 := h.2.2.2.2.2
  rw [hs] at h2
  exact (Option.some.inj h2).symm
theorem xcat (E : xEnv) (rest : List Value) : ((rest.map (xv E)).map fun v => v.category).sum = (rest.map fun v => v.category).sum := by
  rw [List.map_map]
  exact congrArg List.sum (List.map_congr_left fun v _ => xv_cat E v)
theorem xRel.recv {H : Heap} {s : State} {a c N n : Nat} {x : Bool} {K : xKnd} {G : xRef} {M : xMem} {L : xLng} {r : vw_C} (hR : xRel E (x, n, K, G, M, L) H) (h : xIs n K a c N) (hK : xKn E s) (hc : vwCl[c]? = some r) : ∃ cell : Cell, H[xAd E a]? = some cell ∧ cell.vm.isStatics = false ∧ s.vm.findClass r.1 = some cell.cls := by
  obtain ⟨r2, g1, g2, cell, q1, q2, q3, q4⟩ := (hR.1 a h.1 h.2.1).1 (show (K a).1 < 10 by rw [h.2.2.1]; exact vwCl_lt hc)
  dsimp only at g1 g2 q2 q4
  rw [h.2.2.1] at g1 g2 q2 q4
  cases hc.symm.trans g1
  exact ⟨cell, q1, by rw [q3]; rfl, by rw [q2]; exact (hK.1.1 c r hc).2.1⟩
theorem V_cv {Y' : xY} {idx a c N n : Nat} {x : Bool} {K : xKnd} {G : xRef} {M : xMem} {L : xLng} {As rest : List Value} {r : vw_C} (hk : xLk Y.1.cls idx Y') (hy : xYok Y' As.length) (hi : Cond.instanceMethod Y'.1 ∈ xTT) (hs : Cond.selects Y'.1.cls Y'.1 Y'.1 ∈ xTT) (hc : vwCl[c]? = some r) (hrc : r.1 = Y'.1.cls)
    (d : decode Y.2.1 pc = .ok (.invokevirtual idx, 3)) (h : xIs n K a c N) (con : Con E l Y' (.ref a :: As) (x, n, K, G, M, L) P xF) (fit : xFit Y Y' cs) (hW : (rest.map fun v => v.category).sum ≤ 8)
    (kk : ∀ o q', P o q' → V E l Y Q q' (cs.1 + Y'.2.2.2.2.1.cells, cs.2 + Y'.2.2.2.2.1.slots) (pc + 3) ls (o.toList ++ rest)) : V E l Y Q (x, n, K, G, M, L) cs pc ls (As.reverse ++ .ref a :: rest) := by
  intro p e s m args below meth cc C H locs lc hl hR hS
  obtain ⟨hx, hb, hml, hr, hlk, hnm, hown, hts, hKn, htab⟩ := id C
  have S : CallFix p m cc Y.2.1 Y.2.2.1 s args xTT Y.1.cls := ⟨hx, hb, hml, hown, hts⟩
  have hws := hy.ws hts
  have recv := hR.recv h hKn hc
  rw [hrc] at recv
  have hp : PreV s H Y'.1.cls (xAd E a) (xPre E (.ref a :: As) (x, n, K, G, M, L)) (As.map (xv E)) := ⟨xPre.blind, recv, fun U hU hW => ⟨rfl, hKn.go hS hU hW, by rw [hU]; exact hR⟩⟩
  have hW' : 2 * (F0 m pc lc []).monitorRoom + ((rest.map (xv E)).map fun v => v.category).sum ≤ 8 := by rw [xcat]; show 2 * 0 + _ ≤ 8; omega
  have fin : ∀ (o : Option Value) (q' : xS) (H1 : Heap) (locs1 : List Loc), P o q' → xRel E q' H1 → va_S (xA E) s.heap H1 locs1 → W p l e Y.2.2.2.2.1 s m args below meth cc H1 locs1 (cs.1 + Y'.2.2.2.2.1.cells) (cs.2 + Y'.2.2.2.2.1.slots) (Q s args below) (F0 m (pc + 3) lc ((o.map (xv E)).toList ++ rest.map (xv E))) := by
    intro o q' H1 locs1 hP hR1 hS1
    have := kk o q' hP p e s m args below meth cc C H1 locs1 lc hl hR1 hS1
    rw [List.map_append] at this
    cases o <;> exact this
  have es : (As.reverse ++ Value.ref a :: rest).map (xv E) = (As.map (xv E)).reverse ++ .ref (xAd E a) :: rest.map (xv E) := by simp [xv]
  rw [es]
  rcases hk with hk | ⟨host, hk⟩
  · exact xcall (va_runV (C := Y'.1.cls) (n := As.length) S con.met ⟨⟨rfl, rfl, fit.1, fit.2.1, hws, hy.mem, hts _ hy.2.1, hts _ hy.2.2.1, ⟨hy.2.2.2.1, hy.2.2.2.2.1⟩, hy.len, hts _ hk⟩, hts _ hi, hts _ hs⟩ hp rfl (by simp) hl.1 rfl hW' d fit.2.2) hS fin
  · exact xcall (va_runVN (C := Y'.1.cls) (n := As.length) (host := host) S con.met ⟨⟨⟨rfl, rfl, fit.1, fit.2.1, hws, hy.mem⟩, hts _ hy.2.1, hts _ hy.2.2.1, ⟨hy.2.2.2.1, hy.2.2.2.2.1⟩, hy.len, hts _ hk⟩, hts _ hi, hts _ hs⟩ hp rfl (by simp) hl.1 rfl hW' d fit.2.2) hS fin
theorem V_cs {Y' : xY} {idx : Nat} {As rest : List Value} (hk : xLk Y.1.cls idx Y') (hy : xYok Y' As.length) (hst : Cond.static Y'.1 ∈ xTT)
    (d : decode Y.2.1 pc = .ok (.invokestatic idx, 3)) (con : Con E l Y' As q P xF) (fit : xFit Y Y' cs) (hW : (rest.map fun v => v.category).sum ≤ 8)
    (kk : ∀ o q', P o q' → V E l Y Q q' (cs.1 + Y'.2.2.2.2.1.cells, cs.2 + Y'.2.2.2.2.1.slots) (pc + 3) ls (o.toList ++ rest)) : V E l Y Q q cs pc ls (As.reverse ++ rest) := by
  intro p e s m args below meth cc C H locs lc hl hR hS
  obtain ⟨hx, hb, hml, hr, hlk, hnm, hown, hts, hKn, htab⟩ := id C
  have S : CallFix p m cc Y.2.1 Y.2.2.1 s args xTT Y.1.cls := ⟨hx, hb, hml, hown, hts⟩
  have hws := hy.ws hts
  have hp : PreS s H (xPre E As q) (As.map (xv E)) := ⟨xPre.blind, fun U hU hW => ⟨rfl, hKn.go hS hU hW, by rw [hU]; exact hR⟩⟩
  have hW' : 2 * (F0 m pc lc []).monitorRoom + ((rest.map (xv E)).map fun v => v.category).sum ≤ 8 := by rw [xcat]; show 2 * 0 + _ ≤ 8; omega
  have fin : ∀ (o : Option Value) (q' : xS) (H1 : Heap) (locs1 : List Loc), P o q' → xRel E q' H1 → va_S (xA E) s.heap H1 locs1 → W p l e Y.2.2.2.2.1 s m args below meth cc H1 locs1 (cs.1 + Y'.2.2.2.2.1.cells) (cs.2 + Y'.2.2.2.2.1.slots) (Q s args below) (F0 m (pc + 3) lc ((o.map (xv E)).toList ++ rest.map (xv E))) := by
    intro o q' H1 locs1 hP hR1 hS1
    have := kk o q' hP p e s m args below meth cc C H1 locs1 lc hl hR1 hS1
    rw [List.map_append] at this
    cases o <;> exact this
  have es : (As.reverse ++ rest).map (xv E) = (As.map (xv E)).reverse ++ rest.map (xv E) := by simp
  rw [es]
  rcases hk with hk | ⟨host, hk⟩
  · exact xcall (va_runS (n := As.length) S con.met ⟨⟨rfl, rfl, fit.1, fit.2.1, hws, hy.mem, hts _ hy.2.1, hts _ hy.2.2.1, ⟨hy.2.2.2.1, hy.2.2.2.2.1⟩, hy.len, hts _ hk⟩, hts _ hst⟩ hp rfl (by simp) hl.1 rfl hW' d fit.2.2) hS fin
  · exact xcall (va_runSN (n := As.length) (host := host) S con.met ⟨⟨⟨rfl, rfl, fit.1, fit.2.1, hws, hy.mem⟩, hts _ hy.2.1, hts _ hy.2.2.1, ⟨hy.2.2.2.1, hy.2.2.2.2.1⟩, hy.len, hts _ hk⟩, hts _ hst, trivial⟩ hp rfl (by simp) hl.1 rfl hW' d fit.2.2) hS fin
theorem V_ci {Y' : xY} {idx a : Nat} {As rest : List Value} (hk : xLk Y.1.cls idx Y') (hy : xYok Y' As.length) (hi : Cond.instanceMethod Y'.1 ∈ xTT) (hinit : Y'.1.name = "<init>") (hnone : Y'.2.2.2.1 = none)
    (d : decode Y.2.1 pc = .ok (.invokespecial idx, 3)) (con : Con E l Y' (.ref a :: As) q P xF) (fit : xFit Y Y' cs) (hW : (rest.map fun v => v.category).sum ≤ 8)
    (kk : ∀ o q', P o q' → V E l Y Q q' (cs.1 + Y'.2.2.2.2.1.cells, cs.2 + Y'.2.2.2.2.1.slots) (pc + 3) ls (o.toList ++ rest)) : V E l Y Q q cs pc ls (As.reverse ++ .ref a :: rest) := by
  intro p e s m args below meth cc C H locs lc hl hR hS
  obtain ⟨hx, hb, hml, hr, hlk, hnm, hown, hts, hKn, htab⟩ := id C
  have S : CallFix p m cc Y.2.1 Y.2.2.1 s args xTT Y.1.cls := ⟨hx, hb, hml, hown, hts⟩
  have hws := hy.ws hts
  have hp : PreS s H (xPre E (.ref a :: As) q) (.ref (xAd E a) :: As.map (xv E)) := ⟨xPre.blind, fun U hU hW => ⟨rfl, hKn.go hS hU hW, by rw [hU]; exact hR⟩⟩
  have hW' : 2 * (F0 m pc lc []).monitorRoom + ((rest.map (xv E)).map fun v => v.category).sum ≤ 8 := by rw [xcat]; show 2 * 0 + _ ≤ 8; omega
  have fin : ∀ (o : Option Value) (q' : xS) (H1 : Heap) (locs1 : List Loc), P o q' → xRel E q' H1 → va_S (xA E) s.heap H1 locs1 → W p l e Y.2.2.2.2.1 s m args below meth cc H1 locs1 (cs.1 + Y'.2.2.2.2.1.cells) (cs.2 + Y'.2.2.2.2.1.slots) (Q s args below) (F0 m (pc + 3) lc ((o.map (xv E)).toList ++ rest.map (xv E))) := by
    intro o q' H1 locs1 hP hR1 hS1
    have := kk o q' hP p e s m args below meth cc C H1 locs1 lc hl hR1 hS1
    rw [List.map_append] at this
    cases o <;> exact this
  have es : (As.reverse ++ Value.ref a :: rest).map (xv E) = (As.map (xv E)).reverse ++ .ref (xAd E a) :: rest.map (xv E) := by simp [xv]
  rw [es]
  have hmem := hy.mem
  have hc2 := hts _ hy.2.1
  rw [hnone] at hmem hc2
  rcases hk with hk | ⟨host, hk⟩
  · exact xcall (va_runI (n := As.length) S con.met ⟨⟨rfl, rfl, fit.1, fit.2.1, hws, hmem, hc2, hts _ hy.2.2.1, ⟨hy.2.2.2.1, hy.2.2.2.2.1⟩, hy.len, hts _ hk⟩, hinit, hts _ hi⟩ hp rfl (by simp) hl.1 rfl hW' d fit.2.2) hS fin
  · exact xcall (va_runIN (n := As.length) (host := host) S con.met ⟨⟨⟨rfl, rfl, fit.1, fit.2.1, hws, hmem⟩, hc2, hts _ hy.2.2.1, ⟨hy.2.2.2.1, hy.2.2.2.2.1⟩, hy.len, hts _ hk⟩, hinit, hts _ hi⟩ hp rfl (by simp) hl.1 rfl hW' d fit.2.2) hS fin
end VC

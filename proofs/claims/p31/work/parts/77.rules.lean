/-! ===== the law: rules for its calls and its comparisons; each wrapped call by what it answers ===== -/
abbrev Y_L_law : xY := (yL_law, cL_law, 7, some .boolean, { frames := 12, cells := 600130, slots := 7301080, locals := 510 }, [])
def xCH (Y' : xY) (n : Nat) : Prop := Y'.2.2.2.2.2 ≠ [] ∧ Cond.codeWith Y'.1 Y'.2.1 Y'.2.2.1 Y'.2.2.2.1 Y'.2.2.2.2.2 ∈ xTT ∧ Cond.initialized Y'.1.cls ∈ xTT ∧ (Y'.1.cls ≠ "java/lang/invoke/MethodHandle" ∧ Y'.1.cls ≠ "java/lang/invoke/VarHandle" ∧ (parseMethodDescriptor Y'.1.desc).map (fun d => d.parameters.length) = some n) ∧ Cond.static Y'.1 ∈ xTT ∧ Y'.2.2.2.2.1.cells = 1 ∧ Y'.2.2.2.2.1.slots = 6
theorem Con.val {E : xEnv} {l : Launch} {Y : xY} {As : List Value} {q q' : xS} {PX : xPX} {v v' : Int64} (con : Con E l Y As q (xR (some (.long v)) q') PX) (e : v = v') : Con E l Y As q (xR (some (.long v')) q') PX := e ▸ con
theorem Con.jval {E : xEnv} {l : Launch} {Y : xY} {As : List Value} {q : xS} {PX : xPX} {v v' : Int64} {S1 S2 : xSp} {o n : Nat} {K : xKnd} {G : xRef} {M : xMem} {L : xLng} (con : Con E l Y As q (xJ v S1 o n K G M L) PX) (e : v = v') (e2 : S1 = S2) : Con E l Y As q (xJ v' S2 o n K G M L) PX := e ▸ e2 ▸ con
section VH
variable {E : xEnv} {l : Launch} {Y : xY} {Q : xQ} {cs : Nat × Nat} {pc : Nat} {ls : List (Option Value)} {rest st : List Value} {q : xS}
theorem V_ch1R {Y' : xY} {idx : Nat} {a1 : Value} {v : Value} {q' : xS} (hk : Cond.methodLink Y.1.cls idx Y'.1 ∈ xTT) (hc : xCH Y' 1) (d : decode Y.2.1 pc = .ok (.invokestatic idx, 3)) (con : Con E l Y' [a1] q (xR (some v) q') xF) (f1 : Y'.2.2.2.2.1.frames + 1 ≤ Y.2.2.2.2.1.frames) (f2 : 8 + (Y'.2.2.1 + 11) + Y'.2.2.2.2.1.locals ≤ Y.2.2.2.2.1.locals) (f3 : cs.1 + 1 ≤ Y.2.2.2.2.1.cells) (f4 : cs.2 + 6 ≤ Y.2.2.2.2.1.slots) (hW : (rest.map fun v => v.category).sum ≤ 8) (kk : V E l Y Q q' (cs.1 + 1, cs.2 + 6) (pc + 3) ls (v :: rest)) : V E l Y Q q cs pc ls (a1 :: rest) := by
  obtain ⟨h1, h2, h3, h4, h5, h6, h7⟩ := hc
  exact V_csH (As := [a1]) hk h1 h2 h3 h4 h5 d con (xFit.mk f1 f2 (by rw [h6]; exact f3) (by rw [h7]; exact f4)) hW (fun o q2 hq => by obtain ⟨rfl, rfl⟩ := hq; rw [h6, h7]; exact kk)
theorem V_ch1J {Y' : xY} {idx o n : Nat} {a1 : Value} {v : Value} {S' : xSp} {K : xKnd} {G : xRef} {M : xMem} {L : xLng} (hk : Cond.methodLink Y.1.cls idx Y'.1 ∈ xTT) (hc : xCH Y' 1) (d : decode Y.2.1 pc = .ok (.invokestatic idx, 3)) (con : Con E l Y' [a1] q (xJV v S' o n K G M L) xF) (f1 : Y'.2.2.2.2.1.frames + 1 ≤ Y.2.2.2.2.1.frames) (f2 : 8 + (Y'.2.2.1 + 11) + Y'.2.2.2.2.1.locals ≤ Y.2.2.2.2.1.locals) (f3 : cs.1 + 1 ≤ Y.2.2.2.2.1.cells) (f4 : cs.2 + 6 ≤ Y.2.2.2.2.1.slots) (hW : (rest.map fun v => v.category).sum ≤ 8) (kk : ∀ M' L', CRel M' L' o S' → Fr o M L M' L' → V E l Y Q (false, n, K, G, M', L') (cs.1 + 1, cs.2 + 6) (pc + 3) ls (v :: rest)) : V E l Y Q q cs pc ls (a1 :: rest) := by
  obtain ⟨h1, h2, h3, h4, h5, h6, h7⟩ := hc
  exact V_csH (As := [a1]) hk h1 h2 h3 h4 h5 d con (xFit.mk f1 f2 (by rw [h6]; exact f3) (by rw [h7]; exact f4)) hW (fun o q2 hq => by obtain ⟨rfl, M', L', rfl, c1, f1⟩ := hq; rw [h6, h7]; exact kk M' L' c1 f1)
theorem V_ch2R {Y' : xY} {idx : Nat} {a1 a2 : Value} {v : Value} {q' : xS} (hk : Cond.methodLink Y.1.cls idx Y'.1 ∈ xTT) (hc : xCH Y' 2) (d : decode Y.2.1 pc = .ok (.invokestatic idx, 3)) (con : Con E l Y' [a1, a2] q (xR (some v) q') xF) (f1 : Y'.2.2.2.2.1.frames + 1 ≤ Y.2.2.2.2.1.frames) (f2 : 8 + (Y'.2.2.1 + 11) + Y'.2.2.2.2.1.locals ≤ Y.2.2.2.2.1.locals) (f3 : cs.1 + 1 ≤ Y.2.2.2.2.1.cells) (f4 : cs.2 + 6 ≤ Y.2.2.2.2.1.slots) (hW : (rest.map fun v => v.category).sum ≤ 8) (kk : V E l Y Q q' (cs.1 + 1, cs.2 + 6) (pc + 3) ls (v :: rest)) : V E l Y Q q cs pc ls (a2 :: a1 :: rest) := by
  obtain ⟨h1, h2, h3, h4, h5, h6, h7⟩ := hc
  exact V_csH (As := [a1, a2]) hk h1 h2 h3 h4 h5 d con (xFit.mk f1 f2 (by rw [h6]; exact f3) (by rw [h7]; exact f4)) hW (fun o q2 hq => by obtain ⟨rfl, rfl⟩ := hq; rw [h6, h7]; exact kk)
theorem V_ch2J {Y' : xY} {idx o n : Nat} {a1 a2 : Value} {v : Value} {S' : xSp} {K : xKnd} {G : xRef} {M : xMem} {L : xLng} (hk : Cond.methodLink Y.1.cls idx Y'.1 ∈ xTT) (hc : xCH Y' 2) (d : decode Y.2.1 pc = .ok (.invokestatic idx, 3)) (con : Con E l Y' [a1, a2] q (xJV v S' o n K G M L) xF) (f1 : Y'.2.2.2.2.1.frames + 1 ≤ Y.2.2.2.2.1.frames) (f2 : 8 + (Y'.2.2.1 + 11) + Y'.2.2.2.2.1.locals ≤ Y.2.2.2.2.1.locals) (f3 : cs.1 + 1 ≤ Y.2.2.2.2.1.cells) (f4 : cs.2 + 6 ≤ Y.2.2.2.2.1.slots) (hW : (rest.map fun v => v.category).sum ≤ 8) (kk : ∀ M' L', CRel M' L' o S' → Fr o M L M' L' → V E l Y Q (false, n, K, G, M', L') (cs.1 + 1, cs.2 + 6) (pc + 3) ls (v :: rest)) : V E l Y Q q cs pc ls (a2 :: a1 :: rest) := by
  obtain ⟨h1, h2, h3, h4, h5, h6, h7⟩ := hc
  exact V_csH (As := [a1, a2]) hk h1 h2 h3 h4 h5 d con (xFit.mk f1 f2 (by rw [h6]; exact f3) (by rw [h7]; exact f4)) hW (fun o q2 hq => by obtain ⟨rfl, M', L', rfl, c1, f1⟩ := hq; rw [h6, h7]; exact kk M' L' c1 f1)
theorem V_ch3R {Y' : xY} {idx : Nat} {a1 a2 a3 : Value} {v : Value} {q' : xS} (hk : Cond.methodLink Y.1.cls idx Y'.1 ∈ xTT) (hc : xCH Y' 3) (d : decode Y.2.1 pc = .ok (.invokestatic idx, 3)) (con : Con E l Y' [a1, a2, a3] q (xR (some v) q') xF) (f1 : Y'.2.2.2.2.1.frames + 1 ≤ Y.2.2.2.2.1.frames) (f2 : 8 + (Y'.2.2.1 + 11) + Y'.2.2.2.2.1.locals ≤ Y.2.2.2.2.1.locals) (f3 : cs.1 + 1 ≤ Y.2.2.2.2.1.cells) (f4 : cs.2 + 6 ≤ Y.2.2.2.2.1.slots) (hW : (rest.map fun v => v.category).sum ≤ 8) (kk : V E l Y Q q' (cs.1 + 1, cs.2 + 6) (pc + 3) ls (v :: rest)) : V E l Y Q q cs pc ls (a3 :: a2 :: a1 :: rest) := by
  obtain ⟨h1, h2, h3, h4, h5, h6, h7⟩ := hc
  exact V_csH (As := [a1, a2, a3]) hk h1 h2 h3 h4 h5 d con (xFit.mk f1 f2 (by rw [h6]; exact f3) (by rw [h7]; exact f4)) hW (fun o q2 hq => by obtain ⟨rfl, rfl⟩ := hq; rw [h6, h7]; exact kk)
theorem V_ch3J {Y' : xY} {idx o n : Nat} {a1 a2 a3 : Value} {v : Value} {S' : xSp} {K : xKnd} {G : xRef} {M : xMem} {L : xLng} (hk : Cond.methodLink Y.1.cls idx Y'.1 ∈ xTT) (hc : xCH Y' 3) (d : decode Y.2.1 pc = .ok (.invokestatic idx, 3)) (con : Con E l Y' [a1, a2, a3] q (xJV v S' o n K G M L) xF) (f1 : Y'.2.2.2.2.1.frames + 1 ≤ Y.2.2.2.2.1.frames) (f2 : 8 + (Y'.2.2.1 + 11) + Y'.2.2.2.2.1.locals ≤ Y.2.2.2.2.1.locals) (f3 : cs.1 + 1 ≤ Y.2.2.2.2.1.cells) (f4 : cs.2 + 6 ≤ Y.2.2.2.2.1.slots) (hW : (rest.map fun v => v.category).sum ≤ 8) (kk : ∀ M' L', CRel M' L' o S' → Fr o M L M' L' → V E l Y Q (false, n, K, G, M', L') (cs.1 + 1, cs.2 + 6) (pc + 3) ls (v :: rest)) : V E l Y Q q cs pc ls (a3 :: a2 :: a1 :: rest) := by
  obtain ⟨h1, h2, h3, h4, h5, h6, h7⟩ := hc
  exact V_csH (As := [a1, a2, a3]) hk h1 h2 h3 h4 h5 d con (xFit.mk f1 f2 (by rw [h6]; exact f3) (by rw [h7]; exact f4)) hW (fun o q2 hq => by obtain ⟨rfl, M', L', rfl, c1, f1⟩ := hq; rw [h6, h7]; exact kk M' L' c1 f1)
theorem V_ch4R {Y' : xY} {idx : Nat} {a1 a2 a3 a4 : Value} {v : Value} {q' : xS} (hk : Cond.methodLink Y.1.cls idx Y'.1 ∈ xTT) (hc : xCH Y' 4) (d : decode Y.2.1 pc = .ok (.invokestatic idx, 3)) (con : Con E l Y' [a1, a2, a3, a4] q (xR (some v) q') xF) (f1 : Y'.2.2.2.2.1.frames + 1 ≤ Y.2.2.2.2.1.frames) (f2 : 8 + (Y'.2.2.1 + 11) + Y'.2.2.2.2.1.locals ≤ Y.2.2.2.2.1.locals) (f3 : cs.1 + 1 ≤ Y.2.2.2.2.1.cells) (f4 : cs.2 + 6 ≤ Y.2.2.2.2.1.slots) (hW : (rest.map fun v => v.category).sum ≤ 8) (kk : V E l Y Q q' (cs.1 + 1, cs.2 + 6) (pc + 3) ls (v :: rest)) : V E l Y Q q cs pc ls (a4 :: a3 :: a2 :: a1 :: rest) := by
  obtain ⟨h1, h2, h3, h4, h5, h6, h7⟩ := hc
  exact V_csH (As := [a1, a2, a3, a4]) hk h1 h2 h3 h4 h5 d con (xFit.mk f1 f2 (by rw [h6]; exact f3) (by rw [h7]; exact f4)) hW (fun o q2 hq => by obtain ⟨rfl, rfl⟩ := hq; rw [h6, h7]; exact kk)
theorem V_ch4J {Y' : xY} {idx o n : Nat} {a1 a2 a3 a4 : Value} {v : Value} {S' : xSp} {K : xKnd} {G : xRef} {M : xMem} {L : xLng} (hk : Cond.methodLink Y.1.cls idx Y'.1 ∈ xTT) (hc : xCH Y' 4) (d : decode Y.2.1 pc = .ok (.invokestatic idx, 3)) (con : Con E l Y' [a1, a2, a3, a4] q (xJV v S' o n K G M L) xF) (f1 : Y'.2.2.2.2.1.frames + 1 ≤ Y.2.2.2.2.1.frames) (f2 : 8 + (Y'.2.2.1 + 11) + Y'.2.2.2.2.1.locals ≤ Y.2.2.2.2.1.locals) (f3 : cs.1 + 1 ≤ Y.2.2.2.2.1.cells) (f4 : cs.2 + 6 ≤ Y.2.2.2.2.1.slots) (hW : (rest.map fun v => v.category).sum ≤ 8) (kk : ∀ M' L', CRel M' L' o S' → Fr o M L M' L' → V E l Y Q (false, n, K, G, M', L') (cs.1 + 1, cs.2 + 6) (pc + 3) ls (v :: rest)) : V E l Y Q q cs pc ls (a4 :: a3 :: a2 :: a1 :: rest) := by
  obtain ⟨h1, h2, h3, h4, h5, h6, h7⟩ := hc
  exact V_csH (As := [a1, a2, a3, a4]) hk h1 h2 h3 h4 h5 d con (xFit.mk f1 f2 (by rw [h6]; exact f3) (by rw [h7]; exact f4)) hW (fun o q2 hq => by obtain ⟨rfl, M', L', rfl, c1, f1⟩ := hq; rw [h6, h7]; exact kk M' L' c1 f1)
theorem V_cv0J {Y' : xY} {idx o n c N k : Nat} {v : Value} {S' : xSp} {K : xKnd} {G : xRef} {M : xMem} {L : xLng} (hk : xLk Y.1.cls idx Y') (hc : xCV Y' c 0) (d : decode Y.2.1 pc = .ok (.invokevirtual idx, 3)) (h : xIs n K o c N) (con : Con E l Y' [.ref o] (false, n, K, G, M, L) (xG k (some v) S' o false n K G M L) xF) (fit : xFit Y Y' cs) (hz1 : Y'.2.2.2.2.1.cells = 0) (hz2 : Y'.2.2.2.2.1.slots = 0) (hW : (rest.map fun v => v.category).sum ≤ 8) (kk : ∀ M' L', CRel M' L' o S' → Fr o M L M' L' → V E l Y Q (false, n, K, G, M', L') cs (pc + 3) ls (v :: rest)) : V E l Y Q (false, n, K, G, M, L) cs pc ls (.ref o :: rest) :=
  V_cv0P hk hc d h con fit hW (fun o q2 hq => by obtain ⟨-, rfl, M', L', rfl, c1, f1⟩ := hq; rw [hz1, hz2]; exact kk M' L' c1 f1)
theorem V_cs1J {Y' : xY} {idx o n : Nat} {a1 : Value} {v : Value} {S' : xSp} {K : xKnd} {G : xRef} {M : xMem} {L : xLng} (hk : xLk Y.1.cls idx Y') (hc : xCS Y' 1) (d : decode Y.2.1 pc = .ok (.invokestatic idx, 3)) (con : Con E l Y' [a1] q (xJV v S' o n K G M L) xF) (fit : xFit Y Y' cs) (hW : (rest.map fun v => v.category).sum ≤ 8) (kk : ∀ M' L', CRel M' L' o S' → Fr o M L M' L' → V E l Y Q (false, n, K, G, M', L') (cs.1 + Y'.2.2.2.2.1.cells, cs.2 + Y'.2.2.2.2.1.slots) (pc + 3) ls (v :: rest)) : V E l Y Q q cs pc ls (a1 :: rest) :=
  V_cs1P hk hc d con fit hW (fun o q2 hq => by obtain ⟨rfl, M', L', rfl, c1, f1⟩ := hq; exact kk M' L' c1 f1)
theorem V_cs2J {Y' : xY} {idx o n : Nat} {a1 a2 : Value} {v : Value} {S' : xSp} {K : xKnd} {G : xRef} {M : xMem} {L : xLng} (hk : xLk Y.1.cls idx Y') (hc : xCS Y' 2) (d : decode Y.2.1 pc = .ok (.invokestatic idx, 3)) (con : Con E l Y' [a1, a2] q (xJV v S' o n K G M L) xF) (fit : xFit Y Y' cs) (hW : (rest.map fun v => v.category).sum ≤ 8) (kk : ∀ M' L', CRel M' L' o S' → Fr o M L M' L' → V E l Y Q (false, n, K, G, M', L') (cs.1 + Y'.2.2.2.2.1.cells, cs.2 + Y'.2.2.2.2.1.slots) (pc + 3) ls (v :: rest)) : V E l Y Q q cs pc ls (a2 :: a1 :: rest) :=
  V_cs2P hk hc d con fit hW (fun o q2 hq => by obtain ⟨rfl, M', L', rfl, c1, f1⟩ := hq; exact kk M' L' c1 f1)
theorem V_cs3J {Y' : xY} {idx o n : Nat} {a1 a2 a3 : Value} {v : Value} {S' : xSp} {K : xKnd} {G : xRef} {M : xMem} {L : xLng} (hk : xLk Y.1.cls idx Y') (hc : xCS Y' 3) (d : decode Y.2.1 pc = .ok (.invokestatic idx, 3)) (con : Con E l Y' [a1, a2, a3] q (xJV v S' o n K G M L) xF) (fit : xFit Y Y' cs) (hW : (rest.map fun v => v.category).sum ≤ 8) (kk : ∀ M' L', CRel M' L' o S' → Fr o M L M' L' → V E l Y Q (false, n, K, G, M', L') (cs.1 + Y'.2.2.2.2.1.cells, cs.2 + Y'.2.2.2.2.1.slots) (pc + 3) ls (v :: rest)) : V E l Y Q q cs pc ls (a3 :: a2 :: a1 :: rest) :=
  V_cs3P hk hc d con fit hW (fun o q2 hq => by obtain ⟨rfl, M', L', rfl, c1, f1⟩ := hq; exact kk M' L' c1 f1)
theorem V_xt_eq {x : Int32} {off : Int} {tgt : Nat} (d : decode Y.2.1 pc = .ok (.ifCond .eq off, 3)) (ht : (pc : Int) + off = (tgt : Int)) (e : x = 0) (k : V E l Y Q q cs tgt ls st) : V E l Y Q q cs pc ls (.int x :: st) := V_if_eq d ht (fun _ => k) (fun h => absurd e h)
theorem V_yt_eq {x y : Int32} {off : Int} {tgt : Nat} (d : decode Y.2.1 pc = .ok (.if_icmp .eq off, 3)) (ht : (pc : Int) + off = (tgt : Int)) (e : x = y) (k : V E l Y Q q cs tgt ls st) : V E l Y Q q cs pc ls (.int y :: .int x :: st) := V_icmp_eq d ht (fun _ => k) (fun h => absurd e h)
theorem V_zt_eq {x y : Int64} {off : Int} {tgt : Nat} (d0 : decode Y.2.1 pc = .ok (.lcmp, 1)) (d : decode Y.2.1 (pc + 1) = .ok (.ifCond .eq off, 3)) (ht : ((pc + 1 : Nat) : Int) + off = (tgt : Int)) (e : x = y) (k : V E l Y Q q cs tgt ls st) : V E l Y Q q cs pc ls (.long y :: .long x :: st) := V_lcmp d0 (V_xt_eq d ht ((lg_cmp_eq x y).mpr e) k)
theorem V_xf_eq {x : Int32} {off : Int} {tgt : Nat} (d : decode Y.2.1 pc = .ok (.ifCond .eq off, 3)) (ht : (pc : Int) + off = (tgt : Int)) (e : ¬ x = 0) (k : V E l Y Q q cs (pc + 3) ls st) : V E l Y Q q cs pc ls (.int x :: st) := V_if_eq d ht (fun h => absurd h e) (fun _ => k)
theorem V_yf_eq {x y : Int32} {off : Int} {tgt : Nat} (d : decode Y.2.1 pc = .ok (.if_icmp .eq off, 3)) (ht : (pc : Int) + off = (tgt : Int)) (e : ¬ x = y) (k : V E l Y Q q cs (pc + 3) ls st) : V E l Y Q q cs pc ls (.int y :: .int x :: st) := V_icmp_eq d ht (fun h => absurd h e) (fun _ => k)
theorem V_zf_eq {x y : Int64} {off : Int} {tgt : Nat} (d0 : decode Y.2.1 pc = .ok (.lcmp, 1)) (d : decode Y.2.1 (pc + 1) = .ok (.ifCond .eq off, 3)) (ht : ((pc + 1 : Nat) : Int) + off = (tgt : Int)) (e : ¬ x = y) (k : V E l Y Q q cs (pc + 1 + 3) ls st) : V E l Y Q q cs pc ls (.long y :: .long x :: st) := V_lcmp d0 (V_xf_eq d ht ((fun q => e ((lg_cmp_eq x y).mp q))) k)
theorem V_lb_eq {x y : Int64} {off : Int} {tgt : Nat} (d0 : decode Y.2.1 pc = .ok (.lcmp, 1)) (d : decode Y.2.1 (pc + 1) = .ok (.ifCond .eq off, 3)) (ht : ((pc + 1 : Nat) : Int) + off = (tgt : Int)) (kt : x = y → V E l Y Q q cs tgt ls st) (kf : ¬ x = y → V E l Y Q q cs (pc + 1 + 3) ls st) : V E l Y Q q cs pc ls (.long y :: .long x :: st) := V_lcmp d0 (V_if_eq d ht (fun h => kt ((lg_cmp_eq x y).mp h)) (fun h => kf (fun q => h ((lg_cmp_eq x y).mpr q))))
theorem V_xt_ne {x : Int32} {off : Int} {tgt : Nat} (d : decode Y.2.1 pc = .ok (.ifCond .ne off, 3)) (ht : (pc : Int) + off = (tgt : Int)) (e : ¬ x = 0) (k : V E l Y Q q cs tgt ls st) : V E l Y Q q cs pc ls (.int x :: st) := V_if_ne d ht (fun _ => k) (fun h => absurd h e)
theorem V_yt_ne {x y : Int32} {off : Int} {tgt : Nat} (d : decode Y.2.1 pc = .ok (.if_icmp .ne off, 3)) (ht : (pc : Int) + off = (tgt : Int)) (e : ¬ x = y) (k : V E l Y Q q cs tgt ls st) : V E l Y Q q cs pc ls (.int y :: .int x :: st) := V_icmp_ne d ht (fun _ => k) (fun h => absurd h e)
theorem V_zt_ne {x y : Int64} {off : Int} {tgt : Nat} (d0 : decode Y.2.1 pc = .ok (.lcmp, 1)) (d : decode Y.2.1 (pc + 1) = .ok (.ifCond .ne off, 3)) (ht : ((pc + 1 : Nat) : Int) + off = (tgt : Int)) (e : ¬ x = y) (k : V E l Y Q q cs tgt ls st) : V E l Y Q q cs pc ls (.long y :: .long x :: st) := V_lcmp d0 (V_xt_ne d ht ((fun q => e ((lg_cmp_eq x y).mp q))) k)
theorem V_xf_ne {x : Int32} {off : Int} {tgt : Nat} (d : decode Y.2.1 pc = .ok (.ifCond .ne off, 3)) (ht : (pc : Int) + off = (tgt : Int)) (e : x = 0) (k : V E l Y Q q cs (pc + 3) ls st) : V E l Y Q q cs pc ls (.int x :: st) := V_if_ne d ht (fun h => absurd e h) (fun _ => k)
theorem V_yf_ne {x y : Int32} {off : Int} {tgt : Nat} (d : decode Y.2.1 pc = .ok (.if_icmp .ne off, 3)) (ht : (pc : Int) + off = (tgt : Int)) (e : x = y) (k : V E l Y Q q cs (pc + 3) ls st) : V E l Y Q q cs pc ls (.int y :: .int x :: st) := V_icmp_ne d ht (fun h => absurd e h) (fun _ => k)
theorem V_zf_ne {x y : Int64} {off : Int} {tgt : Nat} (d0 : decode Y.2.1 pc = .ok (.lcmp, 1)) (d : decode Y.2.1 (pc + 1) = .ok (.ifCond .ne off, 3)) (ht : ((pc + 1 : Nat) : Int) + off = (tgt : Int)) (e : x = y) (k : V E l Y Q q cs (pc + 1 + 3) ls st) : V E l Y Q q cs pc ls (.long y :: .long x :: st) := V_lcmp d0 (V_xf_ne d ht ((lg_cmp_eq x y).mpr e) k)
theorem V_lb_ne {x y : Int64} {off : Int} {tgt : Nat} (d0 : decode Y.2.1 pc = .ok (.lcmp, 1)) (d : decode Y.2.1 (pc + 1) = .ok (.ifCond .ne off, 3)) (ht : ((pc + 1 : Nat) : Int) + off = (tgt : Int)) (kt : ¬ x = y → V E l Y Q q cs tgt ls st) (kf : x = y → V E l Y Q q cs (pc + 1 + 3) ls st) : V E l Y Q q cs pc ls (.long y :: .long x :: st) := V_lcmp d0 (V_if_ne d ht (fun h => kt (fun q => h ((lg_cmp_eq x y).mpr q))) (fun h => kf ((lg_cmp_eq x y).mp h)))
theorem V_xt_lt {x : Int32} {off : Int} {tgt : Nat} (d : decode Y.2.1 pc = .ok (.ifCond .lt off, 3)) (ht : (pc : Int) + off = (tgt : Int)) (e : x < 0) (k : V E l Y Q q cs tgt ls st) : V E l Y Q q cs pc ls (.int x :: st) := V_if_lt d ht (fun _ => k) (fun h => absurd e h)
theorem V_yt_lt {x y : Int32} {off : Int} {tgt : Nat} (d : decode Y.2.1 pc = .ok (.if_icmp .lt off, 3)) (ht : (pc : Int) + off = (tgt : Int)) (e : x < y) (k : V E l Y Q q cs tgt ls st) : V E l Y Q q cs pc ls (.int y :: .int x :: st) := V_icmp_lt d ht (fun _ => k) (fun h => absurd e h)
theorem V_zt_lt {x y : Int64} {off : Int} {tgt : Nat} (d0 : decode Y.2.1 pc = .ok (.lcmp, 1)) (d : decode Y.2.1 (pc + 1) = .ok (.ifCond .lt off, 3)) (ht : ((pc + 1 : Nat) : Int) + off = (tgt : Int)) (e : x < y) (k : V E l Y Q q cs tgt ls st) : V E l Y Q q cs pc ls (.long y :: .long x :: st) := V_lcmp d0 (V_xt_lt d ht ((lg_cmp_lt x y).mpr e) k)
theorem V_xf_lt {x : Int32} {off : Int} {tgt : Nat} (d : decode Y.2.1 pc = .ok (.ifCond .lt off, 3)) (ht : (pc : Int) + off = (tgt : Int)) (e : ¬ x < 0) (k : V E l Y Q q cs (pc + 3) ls st) : V E l Y Q q cs pc ls (.int x :: st) := V_if_lt d ht (fun h => absurd h e) (fun _ => k)
theorem V_yf_lt {x y : Int32} {off : Int} {tgt : Nat} (d : decode Y.2.1 pc = .ok (.if_icmp .lt off, 3)) (ht : (pc : Int) + off = (tgt : Int)) (e : ¬ x < y) (k : V E l Y Q q cs (pc + 3) ls st) : V E l Y Q q cs pc ls (.int y :: .int x :: st) := V_icmp_lt d ht (fun h => absurd h e) (fun _ => k)
theorem V_zf_lt {x y : Int64} {off : Int} {tgt : Nat} (d0 : decode Y.2.1 pc = .ok (.lcmp, 1)) (d : decode Y.2.1 (pc + 1) = .ok (.ifCond .lt off, 3)) (ht : ((pc + 1 : Nat) : Int) + off = (tgt : Int)) (e : ¬ x < y) (k : V E l Y Q q cs (pc + 1 + 3) ls st) : V E l Y Q q cs pc ls (.long y :: .long x :: st) := V_lcmp d0 (V_xf_lt d ht ((fun q => e ((lg_cmp_lt x y).mp q))) k)
theorem V_lb_lt {x y : Int64} {off : Int} {tgt : Nat} (d0 : decode Y.2.1 pc = .ok (.lcmp, 1)) (d : decode Y.2.1 (pc + 1) = .ok (.ifCond .lt off, 3)) (ht : ((pc + 1 : Nat) : Int) + off = (tgt : Int)) (kt : x < y → V E l Y Q q cs tgt ls st) (kf : ¬ x < y → V E l Y Q q cs (pc + 1 + 3) ls st) : V E l Y Q q cs pc ls (.long y :: .long x :: st) := V_lcmp d0 (V_if_lt d ht (fun h => kt ((lg_cmp_lt x y).mp h)) (fun h => kf (fun q => h ((lg_cmp_lt x y).mpr q))))
theorem V_xt_ge {x : Int32} {off : Int} {tgt : Nat} (d : decode Y.2.1 pc = .ok (.ifCond .ge off, 3)) (ht : (pc : Int) + off = (tgt : Int)) (e : ¬ x < 0) (k : V E l Y Q q cs tgt ls st) : V E l Y Q q cs pc ls (.int x :: st) := V_if_ge d ht (fun _ => k) (fun h => absurd h e)
theorem V_yt_ge {x y : Int32} {off : Int} {tgt : Nat} (d : decode Y.2.1 pc = .ok (.if_icmp .ge off, 3)) (ht : (pc : Int) + off = (tgt : Int)) (e : ¬ x < y) (k : V E l Y Q q cs tgt ls st) : V E l Y Q q cs pc ls (.int y :: .int x :: st) := V_icmp_ge d ht (fun _ => k) (fun h => absurd h e)
theorem V_zt_ge {x y : Int64} {off : Int} {tgt : Nat} (d0 : decode Y.2.1 pc = .ok (.lcmp, 1)) (d : decode Y.2.1 (pc + 1) = .ok (.ifCond .ge off, 3)) (ht : ((pc + 1 : Nat) : Int) + off = (tgt : Int)) (e : ¬ x < y) (k : V E l Y Q q cs tgt ls st) : V E l Y Q q cs pc ls (.long y :: .long x :: st) := V_lcmp d0 (V_xt_ge d ht ((fun q => e ((lg_cmp_lt x y).mp q))) k)
theorem V_xf_ge {x : Int32} {off : Int} {tgt : Nat} (d : decode Y.2.1 pc = .ok (.ifCond .ge off, 3)) (ht : (pc : Int) + off = (tgt : Int)) (e : x < 0) (k : V E l Y Q q cs (pc + 3) ls st) : V E l Y Q q cs pc ls (.int x :: st) := V_if_ge d ht (fun h => absurd e h) (fun _ => k)
theorem V_yf_ge {x y : Int32} {off : Int} {tgt : Nat} (d : decode Y.2.1 pc = .ok (.if_icmp .ge off, 3)) (ht : (pc : Int) + off = (tgt : Int)) (e : x < y) (k : V E l Y Q q cs (pc + 3) ls st) : V E l Y Q q cs pc ls (.int y :: .int x :: st) := V_icmp_ge d ht (fun h => absurd e h) (fun _ => k)
theorem V_zf_ge {x y : Int64} {off : Int} {tgt : Nat} (d0 : decode Y.2.1 pc = .ok (.lcmp, 1)) (d : decode Y.2.1 (pc + 1) = .ok (.ifCond .ge off, 3)) (ht : ((pc + 1 : Nat) : Int) + off = (tgt : Int)) (e : x < y) (k : V E l Y Q q cs (pc + 1 + 3) ls st) : V E l Y Q q cs pc ls (.long y :: .long x :: st) := V_lcmp d0 (V_xf_ge d ht ((lg_cmp_lt x y).mpr e) k)
theorem V_lb_ge {x y : Int64} {off : Int} {tgt : Nat} (d0 : decode Y.2.1 pc = .ok (.lcmp, 1)) (d : decode Y.2.1 (pc + 1) = .ok (.ifCond .ge off, 3)) (ht : ((pc + 1 : Nat) : Int) + off = (tgt : Int)) (kt : ¬ x < y → V E l Y Q q cs tgt ls st) (kf : x < y → V E l Y Q q cs (pc + 1 + 3) ls st) : V E l Y Q q cs pc ls (.long y :: .long x :: st) := V_lcmp d0 (V_if_ge d ht (fun h => kt (fun q => h ((lg_cmp_lt x y).mpr q))) (fun h => kf ((lg_cmp_lt x y).mp h)))
theorem V_xt_gt {x : Int32} {off : Int} {tgt : Nat} (d : decode Y.2.1 pc = .ok (.ifCond .gt off, 3)) (ht : (pc : Int) + off = (tgt : Int)) (e : 0 < x) (k : V E l Y Q q cs tgt ls st) : V E l Y Q q cs pc ls (.int x :: st) := V_if_gt d ht (fun _ => k) (fun h => absurd e h)
theorem V_yt_gt {x y : Int32} {off : Int} {tgt : Nat} (d : decode Y.2.1 pc = .ok (.if_icmp .gt off, 3)) (ht : (pc : Int) + off = (tgt : Int)) (e : y < x) (k : V E l Y Q q cs tgt ls st) : V E l Y Q q cs pc ls (.int y :: .int x :: st) := V_icmp_gt d ht (fun _ => k) (fun h => absurd e h)
theorem V_zt_gt {x y : Int64} {off : Int} {tgt : Nat} (d0 : decode Y.2.1 pc = .ok (.lcmp, 1)) (d : decode Y.2.1 (pc + 1) = .ok (.ifCond .gt off, 3)) (ht : ((pc + 1 : Nat) : Int) + off = (tgt : Int)) (e : y < x) (k : V E l Y Q q cs tgt ls st) : V E l Y Q q cs pc ls (.long y :: .long x :: st) := V_lcmp d0 (V_xt_gt d ht ((lg_cmp_gt x y).mpr e) k)
theorem V_xf_gt {x : Int32} {off : Int} {tgt : Nat} (d : decode Y.2.1 pc = .ok (.ifCond .gt off, 3)) (ht : (pc : Int) + off = (tgt : Int)) (e : ¬ 0 < x) (k : V E l Y Q q cs (pc + 3) ls st) : V E l Y Q q cs pc ls (.int x :: st) := V_if_gt d ht (fun h => absurd h e) (fun _ => k)
theorem V_yf_gt {x y : Int32} {off : Int} {tgt : Nat} (d : decode Y.2.1 pc = .ok (.if_icmp .gt off, 3)) (ht : (pc : Int) + off = (tgt : Int)) (e : ¬ y < x) (k : V E l Y Q q cs (pc + 3) ls st) : V E l Y Q q cs pc ls (.int y :: .int x :: st) := V_icmp_gt d ht (fun h => absurd h e) (fun _ => k)
theorem V_zf_gt {x y : Int64} {off : Int} {tgt : Nat} (d0 : decode Y.2.1 pc = .ok (.lcmp, 1)) (d : decode Y.2.1 (pc + 1) = .ok (.ifCond .gt off, 3)) (ht : ((pc + 1 : Nat) : Int) + off = (tgt : Int)) (e : ¬ y < x) (k : V E l Y Q q cs (pc + 1 + 3) ls st) : V E l Y Q q cs pc ls (.long y :: .long x :: st) := V_lcmp d0 (V_xf_gt d ht ((fun q => e ((lg_cmp_gt x y).mp q))) k)
theorem V_lb_gt {x y : Int64} {off : Int} {tgt : Nat} (d0 : decode Y.2.1 pc = .ok (.lcmp, 1)) (d : decode Y.2.1 (pc + 1) = .ok (.ifCond .gt off, 3)) (ht : ((pc + 1 : Nat) : Int) + off = (tgt : Int)) (kt : y < x → V E l Y Q q cs tgt ls st) (kf : ¬ y < x → V E l Y Q q cs (pc + 1 + 3) ls st) : V E l Y Q q cs pc ls (.long y :: .long x :: st) := V_lcmp d0 (V_if_gt d ht (fun h => kt ((lg_cmp_gt x y).mp h)) (fun h => kf (fun q => h ((lg_cmp_gt x y).mpr q))))
theorem V_xt_le {x : Int32} {off : Int} {tgt : Nat} (d : decode Y.2.1 pc = .ok (.ifCond .le off, 3)) (ht : (pc : Int) + off = (tgt : Int)) (e : ¬ 0 < x) (k : V E l Y Q q cs tgt ls st) : V E l Y Q q cs pc ls (.int x :: st) := V_if_le d ht (fun _ => k) (fun h => absurd h e)
theorem V_yt_le {x y : Int32} {off : Int} {tgt : Nat} (d : decode Y.2.1 pc = .ok (.if_icmp .le off, 3)) (ht : (pc : Int) + off = (tgt : Int)) (e : ¬ y < x) (k : V E l Y Q q cs tgt ls st) : V E l Y Q q cs pc ls (.int y :: .int x :: st) := V_icmp_le d ht (fun _ => k) (fun h => absurd h e)
theorem V_zt_le {x y : Int64} {off : Int} {tgt : Nat} (d0 : decode Y.2.1 pc = .ok (.lcmp, 1)) (d : decode Y.2.1 (pc + 1) = .ok (.ifCond .le off, 3)) (ht : ((pc + 1 : Nat) : Int) + off = (tgt : Int)) (e : ¬ y < x) (k : V E l Y Q q cs tgt ls st) : V E l Y Q q cs pc ls (.long y :: .long x :: st) := V_lcmp d0 (V_xt_le d ht ((fun q => e ((lg_cmp_gt x y).mp q))) k)
theorem V_xf_le {x : Int32} {off : Int} {tgt : Nat} (d : decode Y.2.1 pc = .ok (.ifCond .le off, 3)) (ht : (pc : Int) + off = (tgt : Int)) (e : 0 < x) (k : V E l Y Q q cs (pc + 3) ls st) : V E l Y Q q cs pc ls (.int x :: st) := V_if_le d ht (fun h => absurd e h) (fun _ => k)
theorem V_yf_le {x y : Int32} {off : Int} {tgt : Nat} (d : decode Y.2.1 pc = .ok (.if_icmp .le off, 3)) (ht : (pc : Int) + off = (tgt : Int)) (e : y < x) (k : V E l Y Q q cs (pc + 3) ls st) : V E l Y Q q cs pc ls (.int y :: .int x :: st) := V_icmp_le d ht (fun h => absurd e h) (fun _ => k)
theorem V_zf_le {x y : Int64} {off : Int} {tgt : Nat} (d0 : decode Y.2.1 pc = .ok (.lcmp, 1)) (d : decode Y.2.1 (pc + 1) = .ok (.ifCond .le off, 3)) (ht : ((pc + 1 : Nat) : Int) + off = (tgt : Int)) (e : y < x) (k : V E l Y Q q cs (pc + 1 + 3) ls st) : V E l Y Q q cs pc ls (.long y :: .long x :: st) := V_lcmp d0 (V_xf_le d ht ((lg_cmp_gt x y).mpr e) k)
theorem V_lb_le {x y : Int64} {off : Int} {tgt : Nat} (d0 : decode Y.2.1 pc = .ok (.lcmp, 1)) (d : decode Y.2.1 (pc + 1) = .ok (.ifCond .le off, 3)) (ht : ((pc + 1 : Nat) : Int) + off = (tgt : Int)) (kt : ¬ y < x → V E l Y Q q cs tgt ls st) (kf : y < x → V E l Y Q q cs (pc + 1 + 3) ls st) : V E l Y Q q cs pc ls (.long y :: .long x :: st) := V_lcmp d0 (V_if_le d ht (fun h => kt (fun q => h ((lg_cmp_gt x y).mpr q))) (fun h => kf ((lg_cmp_gt x y).mp h)))
end VH
theorem ch_L_load : xCH Y_L_load 1 := ⟨List.cons_ne_nil _ _, mc_L_load, mi_L, ⟨by decide +kernel, by decide +kernel, by decide +kernel⟩, mt_L_load, rfl, rfl⟩
theorem ch_L_save : xCH Y_L_save 2 := ⟨List.cons_ne_nil _ _, mc_L_save, mi_L, ⟨by decide +kernel, by decide +kernel, by decide +kernel⟩, mt_L_save, rfl, rfl⟩
theorem ch_L_restore : xCH Y_L_restore 2 := ⟨List.cons_ne_nil _ _, mc_L_restore, mi_L, ⟨by decide +kernel, by decide +kernel, by decide +kernel⟩, mt_L_restore, rfl, rfl⟩
theorem ch_L_about : xCH Y_L_about 2 := ⟨List.cons_ne_nil _ _, mc_L_about, mi_L, ⟨by decide +kernel, by decide +kernel, by decide +kernel⟩, mt_L_about, rfl, rfl⟩
theorem ch_L_setting : xCH Y_L_setting 2 := ⟨List.cons_ne_nil _ _, mc_L_setting, mi_L, ⟨by decide +kernel, by decide +kernel, by decide +kernel⟩, mt_L_setting, rfl, rfl⟩
theorem ch_L_bin : xCH Y_L_bin 3 := ⟨List.cons_ne_nil _ _, mc_L_bin, mi_L, ⟨by decide +kernel, by decide +kernel, by decide +kernel⟩, mt_L_bin, rfl, rfl⟩
theorem ch_L_pulse : xCH Y_L_pulse 2 := ⟨List.cons_ne_nil _ _, mc_L_pulse, mi_L, ⟨by decide +kernel, by decide +kernel, by decide +kernel⟩, mt_L_pulse, rfl, rfl⟩
theorem ch_L_fate : xCH Y_L_fate 2 := ⟨List.cons_ne_nil _ _, mc_L_fate, mi_L, ⟨by decide +kernel, by decide +kernel, by decide +kernel⟩, mt_L_fate, rfl, rfl⟩
theorem ch_L_longest : xCH Y_L_longest 2 := ⟨List.cons_ne_nil _ _, mc_L_longest, mi_L, ⟨by decide +kernel, by decide +kernel, by decide +kernel⟩, mt_L_longest, rfl, rfl⟩
theorem ch_L_pattern : xCH Y_L_pattern 3 := ⟨List.cons_ne_nil _ _, mc_L_pattern, mi_L, ⟨by decide +kernel, by decide +kernel, by decide +kernel⟩, mt_L_pattern, rfl, rfl⟩
theorem ch_L_rain : xCH Y_L_rain 2 := ⟨List.cons_ne_nil _ _, mc_L_rain, mi_L, ⟨by decide +kernel, by decide +kernel, by decide +kernel⟩, mt_L_rain, rfl, rfl⟩
theorem ch_L_drop : xCH Y_L_drop 3 := ⟨List.cons_ne_nil _ _, mc_L_drop, mi_L, ⟨by decide +kernel, by decide +kernel, by decide +kernel⟩, mt_L_drop, rfl, rfl⟩
theorem ch_L_pass : xCH Y_L_pass 2 := ⟨List.cons_ne_nil _ _, mc_L_pass, mi_L, ⟨by decide +kernel, by decide +kernel, by decide +kernel⟩, mt_L_pass, rfl, rfl⟩
theorem ch_L_set : xCH Y_L_set 3 := ⟨List.cons_ne_nil _ _, mc_L_set, mi_L, ⟨by decide +kernel, by decide +kernel, by decide +kernel⟩, mt_L_set, rfl, rfl⟩
theorem ch_L_setBorder : xCH Y_L_setBorder 3 := ⟨List.cons_ne_nil _ _, mc_L_setBorder, mi_L, ⟨by decide +kernel, by decide +kernel, by decide +kernel⟩, mt_L_setBorder, rfl, rfl⟩
theorem ch_L_wouldBe : xCH Y_L_wouldBe 3 := ⟨List.cons_ne_nil _ _, mc_L_wouldBe, mi_L, ⟨by decide +kernel, by decide +kernel, by decide +kernel⟩, mt_L_wouldBe, rfl, rfl⟩
theorem ch_L_leastSize : xCH Y_L_leastSize 2 := ⟨List.cons_ne_nil _ _, mc_L_leastSize, mi_L, ⟨by decide +kernel, by decide +kernel, by decide +kernel⟩, mt_L_leastSize, rfl, rfl⟩
theorem ch_L_quietIn : xCH Y_L_quietIn 2 := ⟨List.cons_ne_nil _ _, mc_L_quietIn, mi_L, ⟨by decide +kernel, by decide +kernel, by decide +kernel⟩, mt_L_quietIn, rfl, rfl⟩
theorem ch_L_replay : xCH Y_L_replay 4 := ⟨List.cons_ne_nil _ _, mc_L_replay, mi_L, ⟨by decide +kernel, by decide +kernel, by decide +kernel⟩, mt_L_replay, rfl, rfl⟩
theorem ch_L_bestWindow : xCH Y_L_bestWindow 2 := ⟨List.cons_ne_nil _ _, mc_L_bestWindow, mi_L, ⟨by decide +kernel, by decide +kernel, by decide +kernel⟩, mt_L_bestWindow, rfl, rfl⟩
theorem ch_L_script : xCH Y_L_script 3 := ⟨List.cons_ne_nil _ _, mc_L_script, mi_L, ⟨by decide +kernel, by decide +kernel, by decide +kernel⟩, mt_L_script, rfl, rfl⟩
theorem ch_L_simulate : xCH Y_L_simulate 3 := ⟨List.cons_ne_nil _ _, mc_L_simulate, mi_L, ⟨by decide +kernel, by decide +kernel, by decide +kernel⟩, mt_L_simulate, rfl, rfl⟩
theorem ch_L_append : xCH Y_L_append 2 := ⟨List.cons_ne_nil _ _, mc_L_append, mi_L, ⟨by decide +kernel, by decide +kernel, by decide +kernel⟩, mt_L_append, rfl, rfl⟩
theorem ch_L_undo : xCH Y_L_undo 1 := ⟨List.cons_ne_nil _ _, mc_L_undo, mi_L, ⟨by decide +kernel, by decide +kernel, by decide +kernel⟩, mt_L_undo, rfl, rfl⟩
/-! what the wrapped calls answer -/
def lAbout (R : xRow) (a : Int32) : Int64 := lC (kdAbout a) (aAbout R a).toInt64 cAr 0 0
def lSetting (R : xRow) (a : Int32) : Int64 := lC (kdO a 0 4) (R (1 + a.toNatClampNeg)).toInt64 cAr 0 0
def lBin (R : xRow) (k w : Int32) : Int64 := lC (kdBin k w) (aBin R k.toNatClampNeg w).toInt64 cIx cAr 0
def lPulse (R : xRow) (w : Int32) : Int64 := lC (kdO w 0 3) (aPulse R w).toInt64 cAr 0 0
def lFate (R : xRow) (i : Int32) : Int64 := lC (if i < 0 then 1 else 0) (aFate R (R 47).toNatClampNeg i.toNatClampNeg).toInt64 cAr 0 0
def lLongest (R : xRow) (i : Int32) : Int64 := lC (kdO i 0 3) (aLong R (R 47).toNatClampNeg i).toInt64 cAr 0 0
def lPattern (R : xRow) (m d : Int32) : Int64 := lC (kdPat m d) (aPat R (R 47).toNatClampNeg m.toNatClampNeg d).toInt64 cAr 0 0
def lRain (R : xRow) (i : Int32) : Int64 := lC (kdO i 0 2) (aRain R i 8) cAr 0 0
def lWouldBe (R : xRow) (t z : Int32) : Int64 := lC (kdFall t z) (nI (rDrF R t z)).toInt64 cAr 0 0
def aLeast (R : xRow) (t : Int32) : Int32 := aLst (fun i => decide (rDrF R t (nI i) = 0)) 60 1
def lLeastSize (R : xRow) (t : Int32) : Int64 := lC (kdO t 0 99) (aLeast R t).toInt64 cAr 0 0
def aQuiet (R : xRow) (v : Int32) : Nat := aQui (fun i => decide (¬ v < rLev R (R 0 + nI i))) 117 0
def lQuietIn (R : xRow) (v : Int32) : Int64 := lC (kdO v 0 5000) (nI (aQuiet R v)).toInt64 cAr 0 0
def lReplay (R : xRow) (w d f : Int32) : Int64 := lC (kdRep w d f) (aRep R w d f (xLr R)).toInt64 cAr 0 0
def lBestWindow (R : xRow) (w : Int32) : Int64 := lC (kdO w 0 2) (aBest R w 21).1.toInt64 cAr 0 0
def aScript (R : xRow) (m : Int32) (s : Int64) : Int32 := aScr (gScr s.toBitVec.toNat m.toNatClampNeg) m.toNatClampNeg 0 R
def lScript (R : xRow) (m : Int32) (s : Int64) : Int64 := lC (kdScr m s) (aScript R m s).toInt64 cAr 0 0
def lSimulate (R : xRow) (s : Int64) (m : Int32) : Int64 := lC (kdO m 1 99) (simA R s m.toNatClampNeg).toInt64 cAr 0 0
def lDrop (S : xSp) (t z : Int32) : Int64 := lC (kdFall t z) (nI (rDrF S.2.2.1 t z)).toInt64 cAr 0 0
def sDrop (S : xSp) (t z : Int32) : xSp := if kdFall t z = 0 then sNow (sPush S) (rDr S.2.2.1 t z) else S
def lPass (S : xSp) (t : Int32) : Int64 := lC (kdO t 1 99) (rLev (rGo S.2.2.1 t) (rGo S.2.2.1 t 0)).toInt64 cAr 0 0
def sPass (S : xSp) (t : Int32) : xSp := if kdO t 1 99 = 0 then sNow (sPush S) (rGo S.2.2.1 t) else S
def lSet (S : xSp) (w v : Int32) : Int64 := lC (kdSet w v) (S.2.2.1 (1 + w.toNatClampNeg)).toInt64 cAr 0 0
def sSet (S : xSp) (w v : Int32) : xSp := if kdSet w v = 0 then sNow (sPush S) (upR S.2.2.1 (1 + w.toNatClampNeg) v) else S
def lSetBorder (S : xSp) (w v : Int32) : Int64 := lC (kdBor S.2.2.1 w v) (S.2.2.1 (15 + w.toNatClampNeg)).toInt64 cIx cAr cSt
def sSetBorder (S : xSp) (w v : Int32) : xSp := if kdBor S.2.2.1 w v = 0 then sNow (sPush S) (upR S.2.2.1 (15 + w.toNatClampNeg) v) else S
def kdUndo (S : xSp) : Nat := if S.2.2.2.1 = 0 then 1 else 0
def lUndo (S : xSp) : Int64 := lC (kdUndo S) (nI (S.2.2.2.1 - 1)).toInt64 cSt 0 0
def sUndo (S : xSp) : xSp := if kdUndo S = 0 then sPop S else S
def lSave (S : xSp) (w : Int32) : Int64 := lC (kdO w 0 1) (S.2.2.1 0).toInt64 cIx 0 0
def sSave (S : xSp) (w : Int32) : xSp := if kdO w 0 1 = 0 then sKeep S w.toNatClampNeg else S
def lRestore (S : xSp) (w : Int32) : Int64 := lC (kdRes S w) (S.2.2.2.2.2.2 w.toNatClampNeg 0).toInt64 cIx cSt 0
def sRestore (S : xSp) (w : Int32) : xSp := if kdRes S w = 0 then sBack S w.toNatClampNeg else S
def kdApp (S : xSp) (c : Int32) : Nat := if c < 0 ∨ 255 < c then 1 else if S.1 < 100 then 0 else 2
def lAppend (S : xSp) (c : Int32) : Int64 := lC (kdApp S c) (nI (S.1 + 1)).toInt64 cAr cSt 0
def sAppend (S : xSp) (c : Int32) : xSp := if kdApp S c = 0 then sText S c else S
def lLoad (S : xSp) : Int64 := lC (kdLoad S) (rDrops (sLoad S).2.2.1).toInt64 cSt 0 0
def sLoadX (S : xSp) : xSp := if kdLoad S = 0 then sLoad S else S
section C77
variable {E : xEnv} {l : Launch} {n : Nat} {K : xKnd} {G : xRef} {M : xMem} {L : xLng} {o : Nat} {S : xSp}
theorem k_load (hO : OK l n K G M L o S)  : Con E l Y_L_load [.ref o] (false, n, K, G, M, L) (xJ (lLoad S) (sLoadX S) o n K G M L) xF := by
  obtain ⟨hl, h, hc, T, B, hw, t1, b1⟩ := hO
  exact c_L_load h hc (c_X5_load hl h hc)
theorem k_save (hO : OK l n K G M L o S) (p0 : Int32) : Con E l Y_L_save [.ref o, .int p0] (false, n, K, G, M, L) (xJ (lSave S p0) (sSave S p0) o n K G M L) xF := by
  obtain ⟨hl, h, hc, T, B, hw, t1, b1⟩ := hO
  exact c_L_save h hc _ (c_X5_save hl h hc hw _)
theorem k_restore (hO : OK l n K G M L o S) (p0 : Int32) : Con E l Y_L_restore [.ref o, .int p0] (false, n, K, G, M, L) (xJ (lRestore S p0) (sRestore S p0) o n K G M L) xF := by
  obtain ⟨hl, h, hc, T, B, hw, t1, b1⟩ := hO
  exact c_L_restore h hc _ (c_X5_restore hl h hc hw _)
theorem k_about (hO : OK l n K G M L o S) (p0 : Int32) : Con E l Y_L_about [.ref o, .int p0] (false, n, K, G, M, L) (xR (some (.long (lAbout S.2.2.1 p0))) (false, n, K, G, M, L)) xF := by
  obtain ⟨hl, h, hc, T, B, hw, t1, b1⟩ := hO
  exact c_L_about h _ (c_X5_about hl h hc hw (by omega) _)
theorem k_setting (hO : OK l n K G M L o S) (p0 : Int32) : Con E l Y_L_setting [.ref o, .int p0] (false, n, K, G, M, L) (xR (some (.long (lSetting S.2.2.1 p0))) (false, n, K, G, M, L)) xF := by
  obtain ⟨hl, h, hc, T, B, hw, t1, b1⟩ := hO
  exact c_L_setting h _ (c_X5_setting hl h hc _)
theorem k_bin (hO : OK l n K G M L o S) (p0 : Int32) (p1 : Int32) : Con E l Y_L_bin [.ref o, .int p0, .int p1] (false, n, K, G, M, L) (xR (some (.long (lBin S.2.2.1 p0 p1))) (false, n, K, G, M, L)) xF := by
  obtain ⟨hl, h, hc, T, B, hw, t1, b1⟩ := hO
  exact c_L_bin h _ _ (c_X5_bin hl h hc _ _)
theorem k_pulse (hO : OK l n K G M L o S) (p0 : Int32) : Con E l Y_L_pulse [.ref o, .int p0] (false, n, K, G, M, L) (xR (some (.long (lPulse S.2.2.1 p0))) (false, n, K, G, M, L)) xF := by
  obtain ⟨hl, h, hc, T, B, hw, t1, b1⟩ := hO
  exact c_L_pulse h _ (c_X5_pulse hl h hc hw _)
theorem k_fate (hO : OK l n K G M L o S) (p0 : Int32) : Con E l Y_L_fate [.ref o, .int p0] (false, n, K, G, M, L) (xR (some (.long (lFate S.2.2.1 p0))) (false, n, K, G, M, L)) xF := by
  obtain ⟨hl, h, hc, T, B, hw, t1, b1⟩ := hO
  exact c_L_fate h _ (c_X5_fate hl h hc _)
theorem k_longest (hO : OK l n K G M L o S) (p0 : Int32) : Con E l Y_L_longest [.ref o, .int p0] (false, n, K, G, M, L) (xR (some (.long (lLongest S.2.2.1 p0))) (false, n, K, G, M, L)) xF := by
  obtain ⟨hl, h, hc, T, B, hw, t1, b1⟩ := hO
  exact c_L_longest h _ (c_X5_longest hl h hc _)
theorem k_pattern (hO : OK l n K G M L o S) (p0 : Int32) (p1 : Int32) : Con E l Y_L_pattern [.ref o, .int p0, .int p1] (false, n, K, G, M, L) (xR (some (.long (lPattern S.2.2.1 p0 p1))) (false, n, K, G, M, L)) xF := by
  obtain ⟨hl, h, hc, T, B, hw, t1, b1⟩ := hO
  exact c_L_pattern h _ _ (c_X5_pattern hl h hc _ _)
theorem k_rain (hO : OK l n K G M L o S) (p0 : Int32) : Con E l Y_L_rain [.ref o, .int p0] (false, n, K, G, M, L) (xR (some (.long (lRain S.2.2.1 p0))) (false, n, K, G, M, L)) xF := by
  obtain ⟨hl, h, hc, T, B, hw, t1, b1⟩ := hO
  exact c_L_rain h _ (c_X5_rain hl h hc _)
theorem k_drop (hO : OK l n K G M L o S) (p0 : Int32) (p1 : Int32) : Con E l Y_L_drop [.ref o, .int p0, .int p1] (false, n, K, G, M, L) (xJ (lDrop S p0 p1) (sDrop S p0 p1) o n K G M L) xF := by
  obtain ⟨hl, h, hc, T, B, hw, t1, b1⟩ := hO
  exact c_L_drop h hc _ _ (c_X5_drop hl h hc hw (by omega) (by omega) _ _)
theorem k_pass (hO : OK l n K G M L o S) (p0 : Int32) : Con E l Y_L_pass [.ref o, .int p0] (false, n, K, G, M, L) (xJ (lPass S p0) (sPass S p0) o n K G M L) xF := by
  obtain ⟨hl, h, hc, T, B, hw, t1, b1⟩ := hO
  exact c_L_pass h hc _ (c_X5_pass hl h hc hw (by omega) _)
theorem k_set (hO : OK l n K G M L o S) (p0 : Int32) (p1 : Int32) : Con E l Y_L_set [.ref o, .int p0, .int p1] (false, n, K, G, M, L) (xJ (lSet S p0 p1) (sSet S p0 p1) o n K G M L) xF := by
  obtain ⟨hl, h, hc, T, B, hw, t1, b1⟩ := hO
  exact c_L_set h hc _ _ (c_X5_set hl h hc hw _ _)
theorem k_setBorder (hO : OK l n K G M L o S) (p0 : Int32) (p1 : Int32) : Con E l Y_L_setBorder [.ref o, .int p0, .int p1] (false, n, K, G, M, L) (xJ (lSetBorder S p0 p1) (sSetBorder S p0 p1) o n K G M L) xF := by
  obtain ⟨hl, h, hc, T, B, hw, t1, b1⟩ := hO
  exact c_L_setBorder h hc _ _ (c_X5_setBorder hl h hc hw _ _)
theorem k_wouldBe (hO : OK l n K G M L o S) (p0 : Int32) (p1 : Int32) : Con E l Y_L_wouldBe [.ref o, .int p0, .int p1] (false, n, K, G, M, L) (xR (some (.long (lWouldBe S.2.2.1 p0 p1))) (false, n, K, G, M, L)) xF := by
  obtain ⟨hl, h, hc, T, B, hw, t1, b1⟩ := hO
  exact c_L_wouldBe h _ _ (c_X5_wouldBe hl h hc hw (by omega) _ _)
theorem k_leastSize (hO : OK l n K G M L o S) (p0 : Int32) : Con E l Y_L_leastSize [.ref o, .int p0] (false, n, K, G, M, L) (xR (some (.long (lLeastSize S.2.2.1 p0))) (false, n, K, G, M, L)) xF := by
  obtain ⟨hl, h, hc, T, B, hw, t1, b1⟩ := hO
  exact c_L_leastSize h _ (c_X5_leastSize hl h hc hw (by omega) _)
theorem k_quietIn (hO : OK l n K G M L o S) (p0 : Int32) : Con E l Y_L_quietIn [.ref o, .int p0] (false, n, K, G, M, L) (xR (some (.long (lQuietIn S.2.2.1 p0))) (false, n, K, G, M, L)) xF := by
  obtain ⟨hl, h, hc, T, B, hw, t1, b1⟩ := hO
  exact c_L_quietIn h _ (c_X5_quietIn hl h hc hw (by omega) _)
theorem k_replay (hO : OK l n K G M L o S) (p0 : Int32) (p1 : Int32) (p2 : Int32) : Con E l Y_L_replay [.ref o, .int p0, .int p1, .int p2] (false, n, K, G, M, L) (xJ (lReplay S.2.2.1 p0 p1 p2) S o n K G M L) xF := by
  obtain ⟨hl, h, hc, T, B, hw, t1, b1⟩ := hO
  have := c_L_replay (E := E) h hc p0 p1 p2 (c_X5_replay hl h hc hw (by omega) p0 p1 p2)
  rw [ite_self] at this
  exact this
theorem k_bestWindow (hO : OK l n K G M L o S) (p0 : Int32) : Con E l Y_L_bestWindow [.ref o, .int p0] (false, n, K, G, M, L) (xJ (lBestWindow S.2.2.1 p0) S o n K G M L) xF := by
  obtain ⟨hl, h, hc, T, B, hw, t1, b1⟩ := hO
  have := c_L_bestWindow (E := E) h hc p0 (c_X5_bestWindow hl h hc hw (by omega) p0)
  rw [ite_self] at this
  exact this
theorem k_script (hO : OK l n K G M L o S) (p0 : Int32) (p1 : Int64) : Con E l Y_L_script [.ref o, .int p0, .long p1] (false, n, K, G, M, L) (xJ (lScript S.2.2.1 p0 p1) S o n K G M L) xF := by
  obtain ⟨hl, h, hc, T, B, hw, t1, b1⟩ := hO
  have := c_L_script (E := E) h hc p0 p1 (c_X5_runScript hl h hc hw (by omega) (by omega) p0 p1)
  rw [ite_self] at this
  exact this
theorem k_simulate (hO : OK l n K G M L o S) (p0 : Int64) (p1 : Int32) : Con E l Y_L_simulate [.ref o, .long p0, .int p1] (false, n, K, G, M, L) (xJ (lSimulate S.2.2.1 p0 p1) S o n K G M L) xF := by
  obtain ⟨hl, h, hc, T, B, hw, t1, b1⟩ := hO
  have := c_L_simulate (E := E) h hc p0 p1 (c_X5_simulate hl h hc hw (by omega) (by omega) p0 p1)
  rw [ite_self] at this
  exact this
theorem k_append (hO : OK l n K G M L o S) (p0 : Int32) : Con E l Y_L_append [.ref o, .int p0] (false, n, K, G, M, L) (xJ (lAppend S p0) (sAppend S p0) o n K G M L) xF := by
  obtain ⟨hl, h, hc, T, B, hw, t1, b1⟩ := hO
  exact c_L_append h hc _ (c_X5_appendG hl h hc _)
theorem k_undo (hO : OK l n K G M L o S)  : Con E l Y_L_undo [.ref o] (false, n, K, G, M, L) (xJ (lUndo S) (sUndo S) o n K G M L) xF := by
  obtain ⟨hl, h, hc, T, B, hw, t1, b1⟩ := hO
  exact c_L_undo h hc (c_X5_undo hl h hc hw)
end C77

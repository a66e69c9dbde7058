/-! ===== calls by the number of arguments; what each callee needs ===== -/
def xCV (Y' : xY) (c n : Nat) : Prop := xYok Y' n ∧ Cond.instanceMethod Y'.1 ∈ xTT ∧ Cond.selects Y'.1.cls Y'.1 Y'.1 ∈ xTT ∧ ∃ r : vw_C, vwCl[c]? = some r ∧ r.1 = Y'.1.cls
def xCS (Y' : xY) (n : Nat) : Prop := xYok Y' n ∧ Cond.static Y'.1 ∈ xTT
def xCI (Y' : xY) (n : Nat) : Prop := xYok Y' n ∧ Cond.instanceMethod Y'.1 ∈ xTT ∧ Y'.1.name = "<init>" ∧ Y'.2.2.2.1 = none
theorem xFit.mk {Y Y' : xY} {cs : Nat × Nat} (h1 : Y'.2.2.2.2.1.frames + 1 ≤ Y.2.2.2.2.1.frames) (h2 : 8 + (Y'.2.2.1 + 11) + Y'.2.2.2.2.1.locals ≤ Y.2.2.2.2.1.locals) (h3 : cs.1 + Y'.2.2.2.2.1.cells ≤ Y.2.2.2.2.1.cells) (h4 : cs.2 + Y'.2.2.2.2.1.slots ≤ Y.2.2.2.2.1.slots) : xFit Y Y' cs := ⟨h1, h2, h3, h4⟩
theorem xinc_1 (x : Int32) : x + Int32.ofInt 1 = x + 1 := rfl
theorem xinc_4 (x : Int32) : x + Int32.ofInt 4 = x + 4 := rfl
theorem xinc_m1 (x : Int32) : x + Int32.ofInt (-1) = x + (-1) := rfl
theorem xne {y c : Int32} (h : ¬ y = c) : y.toInt ≠ c.toInt := fun e => h (Int32.toInt_inj.mp e)
theorem xlit_0 : (0 : Int32).toInt = 0 := by decide
theorem xlit_1 : (1 : Int32).toInt = 1 := by decide
theorem xlit_2 : (2 : Int32).toInt = 2 := by decide
theorem xlit_3 : (3 : Int32).toInt = 3 := by decide
theorem xlit_4 : (4 : Int32).toInt = 4 := by decide
theorem xlit_5 : (5 : Int32).toInt = 5 := by decide
theorem xlit_6 : (6 : Int32).toInt = 6 := by decide
theorem xlit_7 : (7 : Int32).toInt = 7 := by decide
theorem xlit_8 : (8 : Int32).toInt = 8 := by decide
theorem xlit_9 : (9 : Int32).toInt = 9 := by decide
theorem xlit_10 : (10 : Int32).toInt = 10 := by decide
theorem xlit_11 : (11 : Int32).toInt = 11 := by decide
theorem xlit_12 : (12 : Int32).toInt = 12 := by decide
theorem xlit_13 : (13 : Int32).toInt = 13 := by decide
theorem xlit_14 : (14 : Int32).toInt = 14 := by decide
theorem xlit_15 : (15 : Int32).toInt = 15 := by decide
theorem xlit_16 : (16 : Int32).toInt = 16 := by decide
theorem xlit_17 : (17 : Int32).toInt = 17 := by decide
theorem xlit_18 : (18 : Int32).toInt = 18 := by decide
theorem xlit_19 : (19 : Int32).toInt = 19 := by decide
theorem xlit_20 : (20 : Int32).toInt = 20 := by decide
theorem xlit_21 : (21 : Int32).toInt = 21 := by decide
theorem xlit_22 : (22 : Int32).toInt = 22 := by decide
theorem xlit_23 : (23 : Int32).toInt = 23 := by decide
theorem xlit_24 : (24 : Int32).toInt = 24 := by decide
theorem xlit_25 : (25 : Int32).toInt = 25 := by decide
theorem xlit_26 : (26 : Int32).toInt = 26 := by decide
theorem xlit_27 : (27 : Int32).toInt = 27 := by decide
section VK
variable {E : xEnv} {l : Launch} {Y : xY} {Q : xQ} {cs : Nat × Nat} {pc : Nat} {ls : List (Option Value)} {rest : List Value}
variable {x : Bool} {n : Nat} {K : xKnd} {G : xRef} {M : xMem} {L : xLng}
theorem V_cv0R {Y' : xY} {idx a c N : Nat} {v : Value} {q' : xS} (hk : xLk Y.1.cls idx Y') (hc : xCV Y' c 0) (d : decode Y.2.1 pc = .ok (.invokevirtual idx, 3)) (h : xIs n K a c N) (con : Con E l Y' (.ref a :: []) (x, n, K, G, M, L) (xR (some v) q') xF) (fit : xFit Y Y' cs) (hz1 : Y'.2.2.2.2.1.cells = 0) (hz2 : Y'.2.2.2.2.1.slots = 0) (hW : (rest.map fun v => v.category).sum ≤ 8) (kk : V E l Y Q q' cs (pc + 3) ls (v :: rest)) : V E l Y Q (x, n, K, G, M, L) cs pc ls (.ref a :: rest) := by
  obtain ⟨h1, h2, h3, r, h4, h5⟩ := hc
  exact V_cv (As := []) hk h1 h2 h3 h4 h5 d h con fit hW (fun o q2 h2 => by obtain ⟨rfl, rfl⟩ := h2; rw [hz1, hz2]; exact kk)
theorem V_ci0R {q : xS} {Y' : xY} {idx a : Nat} {v : Value} {q' : xS} (hk : xLk Y.1.cls idx Y') (hc : xCI Y' 0) (d : decode Y.2.1 pc = .ok (.invokespecial idx, 3)) (con : Con E l Y' (.ref a :: []) q (xR (some v) q') xF) (fit : xFit Y Y' cs) (hz1 : Y'.2.2.2.2.1.cells = 0) (hz2 : Y'.2.2.2.2.1.slots = 0) (hW : (rest.map fun v => v.category).sum ≤ 8) (kk : V E l Y Q q' cs (pc + 3) ls (v :: rest)) : V E l Y Q q cs pc ls (.ref a :: rest) := by
  obtain ⟨h1, h2, h3, h4⟩ := hc
  exact V_ci (As := []) hk h1 h2 h3 h4 d con fit hW (fun o q2 h2 => by obtain ⟨rfl, rfl⟩ := h2; rw [hz1, hz2]; exact kk)
theorem V_cv0U {Y' : xY} {idx a c N : Nat} {q' : xS} (hk : xLk Y.1.cls idx Y') (hc : xCV Y' c 0) (d : decode Y.2.1 pc = .ok (.invokevirtual idx, 3)) (h : xIs n K a c N) (con : Con E l Y' (.ref a :: []) (x, n, K, G, M, L) (xR none q') xF) (fit : xFit Y Y' cs) (hz1 : Y'.2.2.2.2.1.cells = 0) (hz2 : Y'.2.2.2.2.1.slots = 0) (hW : (rest.map fun v => v.category).sum ≤ 8) (kk : V E l Y Q q' cs (pc + 3) ls rest) : V E l Y Q (x, n, K, G, M, L) cs pc ls (.ref a :: rest) := by
  obtain ⟨h1, h2, h3, r, h4, h5⟩ := hc
  exact V_cv (As := []) hk h1 h2 h3 h4 h5 d h con fit hW (fun o q2 h2 => by obtain ⟨rfl, rfl⟩ := h2; rw [hz1, hz2]; exact kk)
theorem V_ci0U {q : xS} {Y' : xY} {idx a : Nat} {q' : xS} (hk : xLk Y.1.cls idx Y') (hc : xCI Y' 0) (d : decode Y.2.1 pc = .ok (.invokespecial idx, 3)) (con : Con E l Y' (.ref a :: []) q (xR none q') xF) (fit : xFit Y Y' cs) (hz1 : Y'.2.2.2.2.1.cells = 0) (hz2 : Y'.2.2.2.2.1.slots = 0) (hW : (rest.map fun v => v.category).sum ≤ 8) (kk : V E l Y Q q' cs (pc + 3) ls rest) : V E l Y Q q cs pc ls (.ref a :: rest) := by
  obtain ⟨h1, h2, h3, h4⟩ := hc
  exact V_ci (As := []) hk h1 h2 h3 h4 d con fit hW (fun o q2 h2 => by obtain ⟨rfl, rfl⟩ := h2; rw [hz1, hz2]; exact kk)
theorem V_cv0P {Y' : xY} {idx a c N : Nat} {P : xP} (hk : xLk Y.1.cls idx Y') (hc : xCV Y' c 0) (d : decode Y.2.1 pc = .ok (.invokevirtual idx, 3)) (h : xIs n K a c N) (con : Con E l Y' (.ref a :: []) (x, n, K, G, M, L) P xF) (fit : xFit Y Y' cs) (hW : (rest.map fun v => v.category).sum ≤ 8) (kk : ∀ o q', P o q' → V E l Y Q q' (cs.1 + Y'.2.2.2.2.1.cells, cs.2 + Y'.2.2.2.2.1.slots) (pc + 3) ls (o.toList ++ rest)) : V E l Y Q (x, n, K, G, M, L) cs pc ls (.ref a :: rest) := by
  obtain ⟨h1, h2, h3, r, h4, h5⟩ := hc
  exact V_cv (As := []) hk h1 h2 h3 h4 h5 d h con fit hW (kk)
theorem V_ci0P {q : xS} {Y' : xY} {idx a : Nat} {P : xP} (hk : xLk Y.1.cls idx Y') (hc : xCI Y' 0) (d : decode Y.2.1 pc = .ok (.invokespecial idx, 3)) (con : Con E l Y' (.ref a :: []) q P xF) (fit : xFit Y Y' cs) (hW : (rest.map fun v => v.category).sum ≤ 8) (kk : ∀ o q', P o q' → V E l Y Q q' (cs.1 + Y'.2.2.2.2.1.cells, cs.2 + Y'.2.2.2.2.1.slots) (pc + 3) ls (o.toList ++ rest)) : V E l Y Q q cs pc ls (.ref a :: rest) := by
  obtain ⟨h1, h2, h3, h4⟩ := hc
  exact V_ci (As := []) hk h1 h2 h3 h4 d con fit hW (kk)
theorem V_cv0RA {Y' : xY} {idx a c N : Nat} {v : Value} {q' : xS} (hk : xLk Y.1.cls idx Y') (hc : xCV Y' c 0) (d : decode Y.2.1 pc = .ok (.invokevirtual idx, 3)) (h : xIs n K a c N) (con : Con E l Y' (.ref a :: []) (x, n, K, G, M, L) (xR (some v) q') xF) (fit : xFit Y Y' cs) (hW : (rest.map fun v => v.category).sum ≤ 8) (kk : V E l Y Q q' (cs.1 + Y'.2.2.2.2.1.cells, cs.2 + Y'.2.2.2.2.1.slots) (pc + 3) ls (v :: rest)) : V E l Y Q (x, n, K, G, M, L) cs pc ls (.ref a :: rest) := by
  obtain ⟨h1, h2, h3, r, h4, h5⟩ := hc
  exact V_cv (As := []) hk h1 h2 h3 h4 h5 d h con fit hW (fun o q2 h2 => by obtain ⟨rfl, rfl⟩ := h2; exact kk)
theorem V_cv0UA {Y' : xY} {idx a c N : Nat} {q' : xS} (hk : xLk Y.1.cls idx Y') (hc : xCV Y' c 0) (d : decode Y.2.1 pc = .ok (.invokevirtual idx, 3)) (h : xIs n K a c N) (con : Con E l Y' (.ref a :: []) (x, n, K, G, M, L) (xR none q') xF) (fit : xFit Y Y' cs) (hW : (rest.map fun v => v.category).sum ≤ 8) (kk : V E l Y Q q' (cs.1 + Y'.2.2.2.2.1.cells, cs.2 + Y'.2.2.2.2.1.slots) (pc + 3) ls rest) : V E l Y Q (x, n, K, G, M, L) cs pc ls (.ref a :: rest) := by
  obtain ⟨h1, h2, h3, r, h4, h5⟩ := hc
  exact V_cv (As := []) hk h1 h2 h3 h4 h5 d h con fit hW (fun o q2 h2 => by obtain ⟨rfl, rfl⟩ := h2; exact kk)
theorem V_ci0UA {q : xS} {Y' : xY} {idx a : Nat} {q' : xS} (hk : xLk Y.1.cls idx Y') (hc : xCI Y' 0) (d : decode Y.2.1 pc = .ok (.invokespecial idx, 3)) (con : Con E l Y' (.ref a :: []) q (xR none q') xF) (fit : xFit Y Y' cs) (hW : (rest.map fun v => v.category).sum ≤ 8) (kk : V E l Y Q q' (cs.1 + Y'.2.2.2.2.1.cells, cs.2 + Y'.2.2.2.2.1.slots) (pc + 3) ls rest) : V E l Y Q q cs pc ls (.ref a :: rest) := by
  obtain ⟨h1, h2, h3, h4⟩ := hc
  exact V_ci (As := []) hk h1 h2 h3 h4 d con fit hW (fun o q2 h2 => by obtain ⟨rfl, rfl⟩ := h2; exact kk)
theorem V_cv1R {Y' : xY} {idx a c N : Nat} {a1 : Value} {v : Value} {q' : xS} (hk : xLk Y.1.cls idx Y') (hc : xCV Y' c 1) (d : decode Y.2.1 pc = .ok (.invokevirtual idx, 3)) (h : xIs n K a c N) (con : Con E l Y' (.ref a :: [a1]) (x, n, K, G, M, L) (xR (some v) q') xF) (fit : xFit Y Y' cs) (hz1 : Y'.2.2.2.2.1.cells = 0) (hz2 : Y'.2.2.2.2.1.slots = 0) (hW : (rest.map fun v => v.category).sum ≤ 8) (kk : V E l Y Q q' cs (pc + 3) ls (v :: rest)) : V E l Y Q (x, n, K, G, M, L) cs pc ls (a1 :: .ref a :: rest) := by
  obtain ⟨h1, h2, h3, r, h4, h5⟩ := hc
  exact V_cv (As := [a1]) hk h1 h2 h3 h4 h5 d h con fit hW (fun o q2 h2 => by obtain ⟨rfl, rfl⟩ := h2; rw [hz1, hz2]; exact kk)
theorem V_ci1R {q : xS} {Y' : xY} {idx a : Nat} {a1 : Value} {v : Value} {q' : xS} (hk : xLk Y.1.cls idx Y') (hc : xCI Y' 1) (d : decode Y.2.1 pc = .ok (.invokespecial idx, 3)) (con : Con E l Y' (.ref a :: [a1]) q (xR (some v) q') xF) (fit : xFit Y Y' cs) (hz1 : Y'.2.2.2.2.1.cells = 0) (hz2 : Y'.2.2.2.2.1.slots = 0) (hW : (rest.map fun v => v.category).sum ≤ 8) (kk : V E l Y Q q' cs (pc + 3) ls (v :: rest)) : V E l Y Q q cs pc ls (a1 :: .ref a :: rest) := by
  obtain ⟨h1, h2, h3, h4⟩ := hc
  exact V_ci (As := [a1]) hk h1 h2 h3 h4 d con fit hW (fun o q2 h2 => by obtain ⟨rfl, rfl⟩ := h2; rw [hz1, hz2]; exact kk)
theorem V_cv1U {Y' : xY} {idx a c N : Nat} {a1 : Value} {q' : xS} (hk : xLk Y.1.cls idx Y') (hc : xCV Y' c 1) (d : decode Y.2.1 pc = .ok (.invokevirtual idx, 3)) (h : xIs n K a c N) (con : Con E l Y' (.ref a :: [a1]) (x, n, K, G, M, L) (xR none q') xF) (fit : xFit Y Y' cs) (hz1 : Y'.2.2.2.2.1.cells = 0) (hz2 : Y'.2.2.2.2.1.slots = 0) (hW : (rest.map fun v => v.category).sum ≤ 8) (kk : V E l Y Q q' cs (pc + 3) ls rest) : V E l Y Q (x, n, K, G, M, L) cs pc ls (a1 :: .ref a :: rest) := by
  obtain ⟨h1, h2, h3, r, h4, h5⟩ := hc
  exact V_cv (As := [a1]) hk h1 h2 h3 h4 h5 d h con fit hW (fun o q2 h2 => by obtain ⟨rfl, rfl⟩ := h2; rw [hz1, hz2]; exact kk)
theorem V_ci1U {q : xS} {Y' : xY} {idx a : Nat} {a1 : Value} {q' : xS} (hk : xLk Y.1.cls idx Y') (hc : xCI Y' 1) (d : decode Y.2.1 pc = .ok (.invokespecial idx, 3)) (con : Con E l Y' (.ref a :: [a1]) q (xR none q') xF) (fit : xFit Y Y' cs) (hz1 : Y'.2.2.2.2.1.cells = 0) (hz2 : Y'.2.2.2.2.1.slots = 0) (hW : (rest.map fun v => v.category).sum ≤ 8) (kk : V E l Y Q q' cs (pc + 3) ls rest) : V E l Y Q q cs pc ls (a1 :: .ref a :: rest) := by
  obtain ⟨h1, h2, h3, h4⟩ := hc
  exact V_ci (As := [a1]) hk h1 h2 h3 h4 d con fit hW (fun o q2 h2 => by obtain ⟨rfl, rfl⟩ := h2; rw [hz1, hz2]; exact kk)
theorem V_cv1P {Y' : xY} {idx a c N : Nat} {a1 : Value} {P : xP} (hk : xLk Y.1.cls idx Y') (hc : xCV Y' c 1) (d : decode Y.2.1 pc = .ok (.invokevirtual idx, 3)) (h : xIs n K a c N) (con : Con E l Y' (.ref a :: [a1]) (x, n, K, G, M, L) P xF) (fit : xFit Y Y' cs) (hW : (rest.map fun v => v.category).sum ≤ 8) (kk : ∀ o q', P o q' → V E l Y Q q' (cs.1 + Y'.2.2.2.2.1.cells, cs.2 + Y'.2.2.2.2.1.slots) (pc + 3) ls (o.toList ++ rest)) : V E l Y Q (x, n, K, G, M, L) cs pc ls (a1 :: .ref a :: rest) := by
  obtain ⟨h1, h2, h3, r, h4, h5⟩ := hc
  exact V_cv (As := [a1]) hk h1 h2 h3 h4 h5 d h con fit hW (kk)
theorem V_ci1P {q : xS} {Y' : xY} {idx a : Nat} {a1 : Value} {P : xP} (hk : xLk Y.1.cls idx Y') (hc : xCI Y' 1) (d : decode Y.2.1 pc = .ok (.invokespecial idx, 3)) (con : Con E l Y' (.ref a :: [a1]) q P xF) (fit : xFit Y Y' cs) (hW : (rest.map fun v => v.category).sum ≤ 8) (kk : ∀ o q', P o q' → V E l Y Q q' (cs.1 + Y'.2.2.2.2.1.cells, cs.2 + Y'.2.2.2.2.1.slots) (pc + 3) ls (o.toList ++ rest)) : V E l Y Q q cs pc ls (a1 :: .ref a :: rest) := by
  obtain ⟨h1, h2, h3, h4⟩ := hc
  exact V_ci (As := [a1]) hk h1 h2 h3 h4 d con fit hW (kk)
theorem V_cv1RA {Y' : xY} {idx a c N : Nat} {a1 : Value} {v : Value} {q' : xS} (hk : xLk Y.1.cls idx Y') (hc : xCV Y' c 1) (d : decode Y.2.1 pc = .ok (.invokevirtual idx, 3)) (h : xIs n K a c N) (con : Con E l Y' (.ref a :: [a1]) (x, n, K, G, M, L) (xR (some v) q') xF) (fit : xFit Y Y' cs) (hW : (rest.map fun v => v.category).sum ≤ 8) (kk : V E l Y Q q' (cs.1 + Y'.2.2.2.2.1.cells, cs.2 + Y'.2.2.2.2.1.slots) (pc + 3) ls (v :: rest)) : V E l Y Q (x, n, K, G, M, L) cs pc ls (a1 :: .ref a :: rest) := by
  obtain ⟨h1, h2, h3, r, h4, h5⟩ := hc
  exact V_cv (As := [a1]) hk h1 h2 h3 h4 h5 d h con fit hW (fun o q2 h2 => by obtain ⟨rfl, rfl⟩ := h2; exact kk)
theorem V_cv1UA {Y' : xY} {idx a c N : Nat} {a1 : Value} {q' : xS} (hk : xLk Y.1.cls idx Y') (hc : xCV Y' c 1) (d : decode Y.2.1 pc = .ok (.invokevirtual idx, 3)) (h : xIs n K a c N) (con : Con E l Y' (.ref a :: [a1]) (x, n, K, G, M, L) (xR none q') xF) (fit : xFit Y Y' cs) (hW : (rest.map fun v => v.category).sum ≤ 8) (kk : V E l Y Q q' (cs.1 + Y'.2.2.2.2.1.cells, cs.2 + Y'.2.2.2.2.1.slots) (pc + 3) ls rest) : V E l Y Q (x, n, K, G, M, L) cs pc ls (a1 :: .ref a :: rest) := by
  obtain ⟨h1, h2, h3, r, h4, h5⟩ := hc
  exact V_cv (As := [a1]) hk h1 h2 h3 h4 h5 d h con fit hW (fun o q2 h2 => by obtain ⟨rfl, rfl⟩ := h2; exact kk)
theorem V_ci1UA {q : xS} {Y' : xY} {idx a : Nat} {a1 : Value} {q' : xS} (hk : xLk Y.1.cls idx Y') (hc : xCI Y' 1) (d : decode Y.2.1 pc = .ok (.invokespecial idx, 3)) (con : Con E l Y' (.ref a :: [a1]) q (xR none q') xF) (fit : xFit Y Y' cs) (hW : (rest.map fun v => v.category).sum ≤ 8) (kk : V E l Y Q q' (cs.1 + Y'.2.2.2.2.1.cells, cs.2 + Y'.2.2.2.2.1.slots) (pc + 3) ls rest) : V E l Y Q q cs pc ls (a1 :: .ref a :: rest) := by
  obtain ⟨h1, h2, h3, h4⟩ := hc
  exact V_ci (As := [a1]) hk h1 h2 h3 h4 d con fit hW (fun o q2 h2 => by obtain ⟨rfl, rfl⟩ := h2; exact kk)
theorem V_cv2R {Y' : xY} {idx a c N : Nat} {a1 a2 : Value} {v : Value} {q' : xS} (hk : xLk Y.1.cls idx Y') (hc : xCV Y' c 2) (d : decode Y.2.1 pc = .ok (.invokevirtual idx, 3)) (h : xIs n K a c N) (con : Con E l Y' (.ref a :: [a1, a2]) (x, n, K, G, M, L) (xR (some v) q') xF) (fit : xFit Y Y' cs) (hz1 : Y'.2.2.2.2.1.cells = 0) (hz2 : Y'.2.2.2.2.1.slots = 0) (hW : (rest.map fun v => v.category).sum ≤ 8) (kk : V E l Y Q q' cs (pc + 3) ls (v :: rest)) : V E l Y Q (x, n, K, G, M, L) cs pc ls (a2 :: a1 :: .ref a :: rest) := by
  obtain ⟨h1, h2, h3, r, h4, h5⟩ := hc
  exact V_cv (As := [a1, a2]) hk h1 h2 h3 h4 h5 d h con fit hW (fun o q2 h2 => by obtain ⟨rfl, rfl⟩ := h2; rw [hz1, hz2]; exact kk)
theorem V_ci2R {q : xS} {Y' : xY} {idx a : Nat} {a1 a2 : Value} {v : Value} {q' : xS} (hk : xLk Y.1.cls idx Y') (hc : xCI Y' 2) (d : decode Y.2.1 pc = .ok (.invokespecial idx, 3)) (con : Con E l Y' (.ref a :: [a1, a2]) q (xR (some v) q') xF) (fit : xFit Y Y' cs) (hz1 : Y'.2.2.2.2.1.cells = 0) (hz2 : Y'.2.2.2.2.1.slots = 0) (hW : (rest.map fun v => v.category).sum ≤ 8) (kk : V E l Y Q q' cs (pc + 3) ls (v :: rest)) : V E l Y Q q cs pc ls (a2 :: a1 :: .ref a :: rest) := by
  obtain ⟨h1, h2, h3, h4⟩ := hc
  exact V_ci (As := [a1, a2]) hk h1 h2 h3 h4 d con fit hW (fun o q2 h2 => by obtain ⟨rfl, rfl⟩ := h2; rw [hz1, hz2]; exact kk)
theorem V_cv2U {Y' : xY} {idx a c N : Nat} {a1 a2 : Value} {q' : xS} (hk : xLk Y.1.cls idx Y') (hc : xCV Y' c 2) (d : decode Y.2.1 pc = .ok (.invokevirtual idx, 3)) (h : xIs n K a c N) (con : Con E l Y' (.ref a :: [a1, a2]) (x, n, K, G, M, L) (xR none q') xF) (fit : xFit Y Y' cs) (hz1 : Y'.2.2.2.2.1.cells = 0) (hz2 : Y'.2.2.2.2.1.slots = 0) (hW : (rest.map fun v => v.category).sum ≤ 8) (kk : V E l Y Q q' cs (pc + 3) ls rest) : V E l Y Q (x, n, K, G, M, L) cs pc ls (a2 :: a1 :: .ref a :: rest) := by
  obtain ⟨h1, h2, h3, r, h4, h5⟩ := hc
  exact V_cv (As := [a1, a2]) hk h1 h2 h3 h4 h5 d h con fit hW (fun o q2 h2 => by obtain ⟨rfl, rfl⟩ := h2; rw [hz1, hz2]; exact kk)
theorem V_ci2U {q : xS} {Y' : xY} {idx a : Nat} {a1 a2 : Value} {q' : xS} (hk : xLk Y.1.cls idx Y') (hc : xCI Y' 2) (d : decode Y.2.1 pc = .ok (.invokespecial idx, 3)) (con : Con E l Y' (.ref a :: [a1, a2]) q (xR none q') xF) (fit : xFit Y Y' cs) (hz1 : Y'.2.2.2.2.1.cells = 0) (hz2 : Y'.2.2.2.2.1.slots = 0) (hW : (rest.map fun v => v.category).sum ≤ 8) (kk : V E l Y Q q' cs (pc + 3) ls rest) : V E l Y Q q cs pc ls (a2 :: a1 :: .ref a :: rest) := by
  obtain ⟨h1, h2, h3, h4⟩ := hc
  exact V_ci (As := [a1, a2]) hk h1 h2 h3 h4 d con fit hW (fun o q2 h2 => by obtain ⟨rfl, rfl⟩ := h2; rw [hz1, hz2]; exact kk)
theorem V_cv2P {Y' : xY} {idx a c N : Nat} {a1 a2 : Value} {P : xP} (hk : xLk Y.1.cls idx Y') (hc : xCV Y' c 2) (d : decode Y.2.1 pc = .ok (.invokevirtual idx, 3)) (h : xIs n K a c N) (con : Con E l Y' (.ref a :: [a1, a2]) (x, n, K, G, M, L) P xF) (fit : xFit Y Y' cs) (hW : (rest.map fun v => v.category).sum ≤ 8) (kk : ∀ o q', P o q' → V E l Y Q q' (cs.1 + Y'.2.2.2.2.1.cells, cs.2 + Y'.2.2.2.2.1.slots) (pc + 3) ls (o.toList ++ rest)) : V E l Y Q (x, n, K, G, M, L) cs pc ls (a2 :: a1 :: .ref a :: rest) := by
  obtain ⟨h1, h2, h3, r, h4, h5⟩ := hc
  exact V_cv (As := [a1, a2]) hk h1 h2 h3 h4 h5 d h con fit hW (kk)
theorem V_ci2P {q : xS} {Y' : xY} {idx a : Nat} {a1 a2 : Value} {P : xP} (hk : xLk Y.1.cls idx Y') (hc : xCI Y' 2) (d : decode Y.2.1 pc = .ok (.invokespecial idx, 3)) (con : Con E l Y' (.ref a :: [a1, a2]) q P xF) (fit : xFit Y Y' cs) (hW : (rest.map fun v => v.category).sum ≤ 8) (kk : ∀ o q', P o q' → V E l Y Q q' (cs.1 + Y'.2.2.2.2.1.cells, cs.2 + Y'.2.2.2.2.1.slots) (pc + 3) ls (o.toList ++ rest)) : V E l Y Q q cs pc ls (a2 :: a1 :: .ref a :: rest) := by
  obtain ⟨h1, h2, h3, h4⟩ := hc
  exact V_ci (As := [a1, a2]) hk h1 h2 h3 h4 d con fit hW (kk)
theorem V_cv2RA {Y' : xY} {idx a c N : Nat} {a1 a2 : Value} {v : Value} {q' : xS} (hk : xLk Y.1.cls idx Y') (hc : xCV Y' c 2) (d : decode Y.2.1 pc = .ok (.invokevirtual idx, 3)) (h : xIs n K a c N) (con : Con E l Y' (.ref a :: [a1, a2]) (x, n, K, G, M, L) (xR (some v) q') xF) (fit : xFit Y Y' cs) (hW : (rest.map fun v => v.category).sum ≤ 8) (kk : V E l Y Q q' (cs.1 + Y'.2.2.2.2.1.cells, cs.2 + Y'.2.2.2.2.1.slots) (pc + 3) ls (v :: rest)) : V E l Y Q (x, n, K, G, M, L) cs pc ls (a2 :: a1 :: .ref a :: rest) := by
  obtain ⟨h1, h2, h3, r, h4, h5⟩ := hc
  exact V_cv (As := [a1, a2]) hk h1 h2 h3 h4 h5 d h con fit hW (fun o q2 h2 => by obtain ⟨rfl, rfl⟩ := h2; exact kk)
theorem V_cv2UA {Y' : xY} {idx a c N : Nat} {a1 a2 : Value} {q' : xS} (hk : xLk Y.1.cls idx Y') (hc : xCV Y' c 2) (d : decode Y.2.1 pc = .ok (.invokevirtual idx, 3)) (h : xIs n K a c N) (con : Con E l Y' (.ref a :: [a1, a2]) (x, n, K, G, M, L) (xR none q') xF) (fit : xFit Y Y' cs) (hW : (rest.map fun v => v.category).sum ≤ 8) (kk : V E l Y Q q' (cs.1 + Y'.2.2.2.2.1.cells, cs.2 + Y'.2.2.2.2.1.slots) (pc + 3) ls rest) : V E l Y Q (x, n, K, G, M, L) cs pc ls (a2 :: a1 :: .ref a :: rest) := by
  obtain ⟨h1, h2, h3, r, h4, h5⟩ := hc
  exact V_cv (As := [a1, a2]) hk h1 h2 h3 h4 h5 d h con fit hW (fun o q2 h2 => by obtain ⟨rfl, rfl⟩ := h2; exact kk)
theorem V_ci2UA {q : xS} {Y' : xY} {idx a : Nat} {a1 a2 : Value} {q' : xS} (hk : xLk Y.1.cls idx Y') (hc : xCI Y' 2) (d : decode Y.2.1 pc = .ok (.invokespecial idx, 3)) (con : Con E l Y' (.ref a :: [a1, a2]) q (xR none q') xF) (fit : xFit Y Y' cs) (hW : (rest.map fun v => v.category).sum ≤ 8) (kk : V E l Y Q q' (cs.1 + Y'.2.2.2.2.1.cells, cs.2 + Y'.2.2.2.2.1.slots) (pc + 3) ls rest) : V E l Y Q q cs pc ls (a2 :: a1 :: .ref a :: rest) := by
  obtain ⟨h1, h2, h3, h4⟩ := hc
  exact V_ci (As := [a1, a2]) hk h1 h2 h3 h4 d con fit hW (fun o q2 h2 => by obtain ⟨rfl, rfl⟩ := h2; exact kk)
theorem V_cv3R {Y' : xY} {idx a c N : Nat} {a1 a2 a3 : Value} {v : Value} {q' : xS} (hk : xLk Y.1.cls idx Y') (hc : xCV Y' c 3) (d : decode Y.2.1 pc = .ok (.invokevirtual idx, 3)) (h : xIs n K a c N) (con : Con E l Y' (.ref a :: [a1, a2, a3]) (x, n, K, G, M, L) (xR (some v) q') xF) (fit : xFit Y Y' cs) (hz1 : Y'.2.2.2.2.1.cells = 0) (hz2 : Y'.2.2.2.2.1.slots = 0) (hW : (rest.map fun v => v.category).sum ≤ 8) (kk : V E l Y Q q' cs (pc + 3) ls (v :: rest)) : V E l Y Q (x, n, K, G, M, L) cs pc ls (a3 :: a2 :: a1 :: .ref a :: rest) := by
  obtain ⟨h1, h2, h3, r, h4, h5⟩ := hc
  exact V_cv (As := [a1, a2, a3]) hk h1 h2 h3 h4 h5 d h con fit hW (fun o q2 h2 => by obtain ⟨rfl, rfl⟩ := h2; rw [hz1, hz2]; exact kk)
theorem V_ci3R {q : xS} {Y' : xY} {idx a : Nat} {a1 a2 a3 : Value} {v : Value} {q' : xS} (hk : xLk Y.1.cls idx Y') (hc : xCI Y' 3) (d : decode Y.2.1 pc = .ok (.invokespecial idx, 3)) (con : Con E l Y' (.ref a :: [a1, a2, a3]) q (xR (some v) q') xF) (fit : xFit Y Y' cs) (hz1 : Y'.2.2.2.2.1.cells = 0) (hz2 : Y'.2.2.2.2.1.slots = 0) (hW : (rest.map fun v => v.category).sum ≤ 8) (kk : V E l Y Q q' cs (pc + 3) ls (v :: rest)) : V E l Y Q q cs pc ls (a3 :: a2 :: a1 :: .ref a :: rest) := by
  obtain ⟨h1, h2, h3, h4⟩ := hc
  exact V_ci (As := [a1, a2, a3]) hk h1 h2 h3 h4 d con fit hW (fun o q2 h2 => by obtain ⟨rfl, rfl⟩ := h2; rw [hz1, hz2]; exact kk)
theorem V_cv3U {Y' : xY} {idx a c N : Nat} {a1 a2 a3 : Value} {q' : xS} (hk : xLk Y.1.cls idx Y') (hc : xCV Y' c 3) (d : decode Y.2.1 pc = .ok (.invokevirtual idx, 3)) (h : xIs n K a c N) (con : Con E l Y' (.ref a :: [a1, a2, a3]) (x, n, K, G, M, L) (xR none q') xF) (fit : xFit Y Y' cs) (hz1 : Y'.2.2.2.2.1.cells = 0) (hz2 : Y'.2.2.2.2.1.slots = 0) (hW : (rest.map fun v => v.category).sum ≤ 8) (kk : V E l Y Q q' cs (pc + 3) ls rest) : V E l Y Q (x, n, K, G, M, L) cs pc ls (a3 :: a2 :: a1 :: .ref a :: rest) := by
  obtain ⟨h1, h2, h3, r, h4, h5⟩ := hc
  exact V_cv (As := [a1, a2, a3]) hk h1 h2 h3 h4 h5 d h con fit hW (fun o q2 h2 => by obtain ⟨rfl, rfl⟩ := h2; rw [hz1, hz2]; exact kk)
theorem V_ci3U {q : xS} {Y' : xY} {idx a : Nat} {a1 a2 a3 : Value} {q' : xS} (hk : xLk Y.1.cls idx Y') (hc : xCI Y' 3) (d : decode Y.2.1 pc = .ok (.invokespecial idx, 3)) (con : Con E l Y' (.ref a :: [a1, a2, a3]) q (xR none q') xF) (fit : xFit Y Y' cs) (hz1 : Y'.2.2.2.2.1.cells = 0) (hz2 : Y'.2.2.2.2.1.slots = 0) (hW : (rest.map fun v => v.category).sum ≤ 8) (kk : V E l Y Q q' cs (pc + 3) ls rest) : V E l Y Q q cs pc ls (a3 :: a2 :: a1 :: .ref a :: rest) := by
  obtain ⟨h1, h2, h3, h4⟩ := hc
  exact V_ci (As := [a1, a2, a3]) hk h1 h2 h3 h4 d con fit hW (fun o q2 h2 => by obtain ⟨rfl, rfl⟩ := h2; rw [hz1, hz2]; exact kk)
theorem V_cv3P {Y' : xY} {idx a c N : Nat} {a1 a2 a3 : Value} {P : xP} (hk : xLk Y.1.cls idx Y') (hc : xCV Y' c 3) (d : decode Y.2.1 pc = .ok (.invokevirtual idx, 3)) (h : xIs n K a c N) (con : Con E l Y' (.ref a :: [a1, a2, a3]) (x, n, K, G, M, L) P xF) (fit : xFit Y Y' cs) (hW : (rest.map fun v => v.category).sum ≤ 8) (kk : ∀ o q', P o q' → V E l Y Q q' (cs.1 + Y'.2.2.2.2.1.cells, cs.2 + Y'.2.2.2.2.1.slots) (pc + 3) ls (o.toList ++ rest)) : V E l Y Q (x, n, K, G, M, L) cs pc ls (a3 :: a2 :: a1 :: .ref a :: rest) := by
  obtain ⟨h1, h2, h3, r, h4, h5⟩ := hc
  exact V_cv (As := [a1, a2, a3]) hk h1 h2 h3 h4 h5 d h con fit hW (kk)
theorem V_ci3P {q : xS} {Y' : xY} {idx a : Nat} {a1 a2 a3 : Value} {P : xP} (hk : xLk Y.1.cls idx Y') (hc : xCI Y' 3) (d : decode Y.2.1 pc = .ok (.invokespecial idx, 3)) (con : Con E l Y' (.ref a :: [a1, a2, a3]) q P xF) (fit : xFit Y Y' cs) (hW : (rest.map fun v => v.category).sum ≤ 8) (kk : ∀ o q', P o q' → V E l Y Q q' (cs.1 + Y'.2.2.2.2.1.cells, cs.2 + Y'.2.2.2.2.1.slots) (pc + 3) ls (o.toList ++ rest)) : V E l Y Q q cs pc ls (a3 :: a2 :: a1 :: .ref a :: rest) := by
  obtain ⟨h1, h2, h3, h4⟩ := hc
  exact V_ci (As := [a1, a2, a3]) hk h1 h2 h3 h4 d con fit hW (kk)
theorem V_cv3RA {Y' : xY} {idx a c N : Nat} {a1 a2 a3 : Value} {v : Value} {q' : xS} (hk : xLk Y.1.cls idx Y') (hc : xCV Y' c 3) (d : decode Y.2.1 pc = .ok (.invokevirtual idx, 3)) (h : xIs n K a c N) (con : Con E l Y' (.ref a :: [a1, a2, a3]) (x, n, K, G, M, L) (xR (some v) q') xF) (fit : xFit Y Y' cs) (hW : (rest.map fun v => v.category).sum ≤ 8) (kk : V E l Y Q q' (cs.1 + Y'.2.2.2.2.1.cells, cs.2 + Y'.2.2.2.2.1.slots) (pc + 3) ls (v :: rest)) : V E l Y Q (x, n, K, G, M, L) cs pc ls (a3 :: a2 :: a1 :: .ref a :: rest) := by
  obtain ⟨h1, h2, h3, r, h4, h5⟩ := hc
  exact V_cv (As := [a1, a2, a3]) hk h1 h2 h3 h4 h5 d h con fit hW (fun o q2 h2 => by obtain ⟨rfl, rfl⟩ := h2; exact kk)
theorem V_cv3UA {Y' : xY} {idx a c N : Nat} {a1 a2 a3 : Value} {q' : xS} (hk : xLk Y.1.cls idx Y') (hc : xCV Y' c 3) (d : decode Y.2.1 pc = .ok (.invokevirtual idx, 3)) (h : xIs n K a c N) (con : Con E l Y' (.ref a :: [a1, a2, a3]) (x, n, K, G, M, L) (xR none q') xF) (fit : xFit Y Y' cs) (hW : (rest.map fun v => v.category).sum ≤ 8) (kk : V E l Y Q q' (cs.1 + Y'.2.2.2.2.1.cells, cs.2 + Y'.2.2.2.2.1.slots) (pc + 3) ls rest) : V E l Y Q (x, n, K, G, M, L) cs pc ls (a3 :: a2 :: a1 :: .ref a :: rest) := by
  obtain ⟨h1, h2, h3, r, h4, h5⟩ := hc
  exact V_cv (As := [a1, a2, a3]) hk h1 h2 h3 h4 h5 d h con fit hW (fun o q2 h2 => by obtain ⟨rfl, rfl⟩ := h2; exact kk)
theorem V_ci3UA {q : xS} {Y' : xY} {idx a : Nat} {a1 a2 a3 : Value} {q' : xS} (hk : xLk Y.1.cls idx Y') (hc : xCI Y' 3) (d : decode Y.2.1 pc = .ok (.invokespecial idx, 3)) (con : Con E l Y' (.ref a :: [a1, a2, a3]) q (xR none q') xF) (fit : xFit Y Y' cs) (hW : (rest.map fun v => v.category).sum ≤ 8) (kk : V E l Y Q q' (cs.1 + Y'.2.2.2.2.1.cells, cs.2 + Y'.2.2.2.2.1.slots) (pc + 3) ls rest) : V E l Y Q q cs pc ls (a3 :: a2 :: a1 :: .ref a :: rest) := by
  obtain ⟨h1, h2, h3, h4⟩ := hc
  exact V_ci (As := [a1, a2, a3]) hk h1 h2 h3 h4 d con fit hW (fun o q2 h2 => by obtain ⟨rfl, rfl⟩ := h2; exact kk)
theorem V_cv4R {Y' : xY} {idx a c N : Nat} {a1 a2 a3 a4 : Value} {v : Value} {q' : xS} (hk : xLk Y.1.cls idx Y') (hc : xCV Y' c 4) (d : decode Y.2.1 pc = .ok (.invokevirtual idx, 3)) (h : xIs n K a c N) (con : Con E l Y' (.ref a :: [a1, a2, a3, a4]) (x, n, K, G, M, L) (xR (some v) q') xF) (fit : xFit Y Y' cs) (hz1 : Y'.2.2.2.2.1.cells = 0) (hz2 : Y'.2.2.2.2.1.slots = 0) (hW : (rest.map fun v => v.category).sum ≤ 8) (kk : V E l Y Q q' cs (pc + 3) ls (v :: rest)) : V E l Y Q (x, n, K, G, M, L) cs pc ls (a4 :: a3 :: a2 :: a1 :: .ref a :: rest) := by
  obtain ⟨h1, h2, h3, r, h4, h5⟩ := hc
  exact V_cv (As := [a1, a2, a3, a4]) hk h1 h2 h3 h4 h5 d h con fit hW (fun o q2 h2 => by obtain ⟨rfl, rfl⟩ := h2; rw [hz1, hz2]; exact kk)
theorem V_ci4R {q : xS} {Y' : xY} {idx a : Nat} {a1 a2 a3 a4 : Value} {v : Value} {q' : xS} (hk : xLk Y.1.cls idx Y') (hc : xCI Y' 4) (d : decode Y.2.1 pc = .ok (.invokespecial idx, 3)) (con : Con E l Y' (.ref a :: [a1, a2, a3, a4]) q (xR (some v) q') xF) (fit : xFit Y Y' cs) (hz1 : Y'.2.2.2.2.1.cells = 0) (hz2 : Y'.2.2.2.2.1.slots = 0) (hW : (rest.map fun v => v.category).sum ≤ 8) (kk : V E l Y Q q' cs (pc + 3) ls (v :: rest)) : V E l Y Q q cs pc ls (a4 :: a3 :: a2 :: a1 :: .ref a :: rest) := by
  obtain ⟨h1, h2, h3, h4⟩ := hc
  exact V_ci (As := [a1, a2, a3, a4]) hk h1 h2 h3 h4 d con fit hW (fun o q2 h2 => by obtain ⟨rfl, rfl⟩ := h2; rw [hz1, hz2]; exact kk)
theorem V_cv4U {Y' : xY} {idx a c N : Nat} {a1 a2 a3 a4 : Value} {q' : xS} (hk : xLk Y.1.cls idx Y') (hc : xCV Y' c 4) (d : decode Y.2.1 pc = .ok (.invokevirtual idx, 3)) (h : xIs n K a c N) (con : Con E l Y' (.ref a :: [a1, a2, a3, a4]) (x, n, K, G, M, L) (xR none q') xF) (fit : xFit Y Y' cs) (hz1 : Y'.2.2.2.2.1.cells = 0) (hz2 : Y'.2.2.2.2.1.slots = 0) (hW : (rest.map fun v => v.category).sum ≤ 8) (kk : V E l Y Q q' cs (pc + 3) ls rest) : V E l Y Q (x, n, K, G, M, L) cs pc ls (a4 :: a3 :: a2 :: a1 :: .ref a :: rest) := by
  obtain ⟨h1, h2, h3, r, h4, h5⟩ := hc
  exact V_cv (As := [a1, a2, a3, a4]) hk h1 h2 h3 h4 h5 d h con fit hW (fun o q2 h2 => by obtain ⟨rfl, rfl⟩ := h2; rw [hz1, hz2]; exact kk)
theorem V_ci4U {q : xS} {Y' : xY} {idx a : Nat} {a1 a2 a3 a4 : Value} {q' : xS} (hk : xLk Y.1.cls idx Y') (hc : xCI Y' 4) (d : decode Y.2.1 pc = .ok (.invokespecial idx, 3)) (con : Con E l Y' (.ref a :: [a1, a2, a3, a4]) q (xR none q') xF) (fit : xFit Y Y' cs) (hz1 : Y'.2.2.2.2.1.cells = 0) (hz2 : Y'.2.2.2.2.1.slots = 0) (hW : (rest.map fun v => v.category).sum ≤ 8) (kk : V E l Y Q q' cs (pc + 3) ls rest) : V E l Y Q q cs pc ls (a4 :: a3 :: a2 :: a1 :: .ref a :: rest) := by
  obtain ⟨h1, h2, h3, h4⟩ := hc
  exact V_ci (As := [a1, a2, a3, a4]) hk h1 h2 h3 h4 d con fit hW (fun o q2 h2 => by obtain ⟨rfl, rfl⟩ := h2; rw [hz1, hz2]; exact kk)
theorem V_cv4P {Y' : xY} {idx a c N : Nat} {a1 a2 a3 a4 : Value} {P : xP} (hk : xLk Y.1.cls idx Y') (hc : xCV Y' c 4) (d : decode Y.2.1 pc = .ok (.invokevirtual idx, 3)) (h : xIs n K a c N) (con : Con E l Y' (.ref a :: [a1, a2, a3, a4]) (x, n, K, G, M, L) P xF) (fit : xFit Y Y' cs) (hW : (rest.map fun v => v.category).sum ≤ 8) (kk : ∀ o q', P o q' → V E l Y Q q' (cs.1 + Y'.2.2.2.2.1.cells, cs.2 + Y'.2.2.2.2.1.slots) (pc + 3) ls (o.toList ++ rest)) : V E l Y Q (x, n, K, G, M, L) cs pc ls (a4 :: a3 :: a2 :: a1 :: .ref a :: rest) := by
  obtain ⟨h1, h2, h3, r, h4, h5⟩ := hc
  exact V_cv (As := [a1, a2, a3, a4]) hk h1 h2 h3 h4 h5 d h con fit hW (kk)
theorem V_ci4P {q : xS} {Y' : xY} {idx a : Nat} {a1 a2 a3 a4 : Value} {P : xP} (hk : xLk Y.1.cls idx Y') (hc : xCI Y' 4) (d : decode Y.2.1 pc = .ok (.invokespecial idx, 3)) (con : Con E l Y' (.ref a :: [a1, a2, a3, a4]) q P xF) (fit : xFit Y Y' cs) (hW : (rest.map fun v => v.category).sum ≤ 8) (kk : ∀ o q', P o q' → V E l Y Q q' (cs.1 + Y'.2.2.2.2.1.cells, cs.2 + Y'.2.2.2.2.1.slots) (pc + 3) ls (o.toList ++ rest)) : V E l Y Q q cs pc ls (a4 :: a3 :: a2 :: a1 :: .ref a :: rest) := by
  obtain ⟨h1, h2, h3, h4⟩ := hc
  exact V_ci (As := [a1, a2, a3, a4]) hk h1 h2 h3 h4 d con fit hW (kk)
theorem V_cv4RA {Y' : xY} {idx a c N : Nat} {a1 a2 a3 a4 : Value} {v : Value} {q' : xS} (hk : xLk Y.1.cls idx Y') (hc : xCV Y' c 4) (d : decode Y.2.1 pc = .ok (.invokevirtual idx, 3)) (h : xIs n K a c N) (con : Con E l Y' (.ref a :: [a1, a2, a3, a4]) (x, n, K, G, M, L) (xR (some v) q') xF) (fit : xFit Y Y' cs) (hW : (rest.map fun v => v.category).sum ≤ 8) (kk : V E l Y Q q' (cs.1 + Y'.2.2.2.2.1.cells, cs.2 + Y'.2.2.2.2.1.slots) (pc + 3) ls (v :: rest)) : V E l Y Q (x, n, K, G, M, L) cs pc ls (a4 :: a3 :: a2 :: a1 :: .ref a :: rest) := by
  obtain ⟨h1, h2, h3, r, h4, h5⟩ := hc
  exact V_cv (As := [a1, a2, a3, a4]) hk h1 h2 h3 h4 h5 d h con fit hW (fun o q2 h2 => by obtain ⟨rfl, rfl⟩ := h2; exact kk)
theorem V_cv4UA {Y' : xY} {idx a c N : Nat} {a1 a2 a3 a4 : Value} {q' : xS} (hk : xLk Y.1.cls idx Y') (hc : xCV Y' c 4) (d : decode Y.2.1 pc = .ok (.invokevirtual idx, 3)) (h : xIs n K a c N) (con : Con E l Y' (.ref a :: [a1, a2, a3, a4]) (x, n, K, G, M, L) (xR none q') xF) (fit : xFit Y Y' cs) (hW : (rest.map fun v => v.category).sum ≤ 8) (kk : V E l Y Q q' (cs.1 + Y'.2.2.2.2.1.cells, cs.2 + Y'.2.2.2.2.1.slots) (pc + 3) ls rest) : V E l Y Q (x, n, K, G, M, L) cs pc ls (a4 :: a3 :: a2 :: a1 :: .ref a :: rest) := by
  obtain ⟨h1, h2, h3, r, h4, h5⟩ := hc
  exact V_cv (As := [a1, a2, a3, a4]) hk h1 h2 h3 h4 h5 d h con fit hW (fun o q2 h2 => by obtain ⟨rfl, rfl⟩ := h2; exact kk)
theorem V_ci4UA {q : xS} {Y' : xY} {idx a : Nat} {a1 a2 a3 a4 : Value} {q' : xS} (hk : xLk Y.1.cls idx Y') (hc : xCI Y' 4) (d : decode Y.2.1 pc = .ok (.invokespecial idx, 3)) (con : Con E l Y' (.ref a :: [a1, a2, a3, a4]) q (xR none q') xF) (fit : xFit Y Y' cs) (hW : (rest.map fun v => v.category).sum ≤ 8) (kk : V E l Y Q q' (cs.1 + Y'.2.2.2.2.1.cells, cs.2 + Y'.2.2.2.2.1.slots) (pc + 3) ls rest) : V E l Y Q q cs pc ls (a4 :: a3 :: a2 :: a1 :: .ref a :: rest) := by
  obtain ⟨h1, h2, h3, h4⟩ := hc
  exact V_ci (As := [a1, a2, a3, a4]) hk h1 h2 h3 h4 d con fit hW (fun o q2 h2 => by obtain ⟨rfl, rfl⟩ := h2; exact kk)
theorem V_cs0R {q : xS} {Y' : xY} {idx : Nat} {v : Value} {q' : xS} (hk : xLk Y.1.cls idx Y') (hc : xCS Y' 0) (d : decode Y.2.1 pc = .ok (.invokestatic idx, 3)) (con : Con E l Y' [] q (xR (some v) q') xF) (fit : xFit Y Y' cs) (hz1 : Y'.2.2.2.2.1.cells = 0) (hz2 : Y'.2.2.2.2.1.slots = 0) (hW : (rest.map fun v => v.category).sum ≤ 8) (kk : V E l Y Q q' cs (pc + 3) ls (v :: rest)) : V E l Y Q q cs pc ls (rest) := by
  obtain ⟨h1, h2⟩ := hc
  exact V_cs (As := []) hk h1 h2 d con fit hW (fun o q2 h2 => by obtain ⟨rfl, rfl⟩ := h2; rw [hz1, hz2]; exact kk)
theorem V_cs0U {q : xS} {Y' : xY} {idx : Nat} {q' : xS} (hk : xLk Y.1.cls idx Y') (hc : xCS Y' 0) (d : decode Y.2.1 pc = .ok (.invokestatic idx, 3)) (con : Con E l Y' [] q (xR none q') xF) (fit : xFit Y Y' cs) (hz1 : Y'.2.2.2.2.1.cells = 0) (hz2 : Y'.2.2.2.2.1.slots = 0) (hW : (rest.map fun v => v.category).sum ≤ 8) (kk : V E l Y Q q' cs (pc + 3) ls rest) : V E l Y Q q cs pc ls (rest) := by
  obtain ⟨h1, h2⟩ := hc
  exact V_cs (As := []) hk h1 h2 d con fit hW (fun o q2 h2 => by obtain ⟨rfl, rfl⟩ := h2; rw [hz1, hz2]; exact kk)
theorem V_cs0P {q : xS} {Y' : xY} {idx : Nat} {P : xP} (hk : xLk Y.1.cls idx Y') (hc : xCS Y' 0) (d : decode Y.2.1 pc = .ok (.invokestatic idx, 3)) (con : Con E l Y' [] q P xF) (fit : xFit Y Y' cs) (hW : (rest.map fun v => v.category).sum ≤ 8) (kk : ∀ o q', P o q' → V E l Y Q q' (cs.1 + Y'.2.2.2.2.1.cells, cs.2 + Y'.2.2.2.2.1.slots) (pc + 3) ls (o.toList ++ rest)) : V E l Y Q q cs pc ls (rest) := by
  obtain ⟨h1, h2⟩ := hc
  exact V_cs (As := []) hk h1 h2 d con fit hW (kk)
theorem V_cs0RA {q : xS} {Y' : xY} {idx : Nat} {v : Value} {q' : xS} (hk : xLk Y.1.cls idx Y') (hc : xCS Y' 0) (d : decode Y.2.1 pc = .ok (.invokestatic idx, 3)) (con : Con E l Y' [] q (xR (some v) q') xF) (fit : xFit Y Y' cs) (hW : (rest.map fun v => v.category).sum ≤ 8) (kk : V E l Y Q q' (cs.1 + Y'.2.2.2.2.1.cells, cs.2 + Y'.2.2.2.2.1.slots) (pc + 3) ls (v :: rest)) : V E l Y Q q cs pc ls (rest) := by
  obtain ⟨h1, h2⟩ := hc
  exact V_cs (As := []) hk h1 h2 d con fit hW (fun o q2 h2 => by obtain ⟨rfl, rfl⟩ := h2; exact kk)
theorem V_cs0UA {q : xS} {Y' : xY} {idx : Nat} {q' : xS} (hk : xLk Y.1.cls idx Y') (hc : xCS Y' 0) (d : decode Y.2.1 pc = .ok (.invokestatic idx, 3)) (con : Con E l Y' [] q (xR none q') xF) (fit : xFit Y Y' cs) (hW : (rest.map fun v => v.category).sum ≤ 8) (kk : V E l Y Q q' (cs.1 + Y'.2.2.2.2.1.cells, cs.2 + Y'.2.2.2.2.1.slots) (pc + 3) ls rest) : V E l Y Q q cs pc ls (rest) := by
  obtain ⟨h1, h2⟩ := hc
  exact V_cs (As := []) hk h1 h2 d con fit hW (fun o q2 h2 => by obtain ⟨rfl, rfl⟩ := h2; exact kk)
theorem V_cs1R {q : xS} {Y' : xY} {idx : Nat} {a1 : Value} {v : Value} {q' : xS} (hk : xLk Y.1.cls idx Y') (hc : xCS Y' 1) (d : decode Y.2.1 pc = .ok (.invokestatic idx, 3)) (con : Con E l Y' [a1] q (xR (some v) q') xF) (fit : xFit Y Y' cs) (hz1 : Y'.2.2.2.2.1.cells = 0) (hz2 : Y'.2.2.2.2.1.slots = 0) (hW : (rest.map fun v => v.category).sum ≤ 8) (kk : V E l Y Q q' cs (pc + 3) ls (v :: rest)) : V E l Y Q q cs pc ls (a1 :: rest) := by
  obtain ⟨h1, h2⟩ := hc
  exact V_cs (As := [a1]) hk h1 h2 d con fit hW (fun o q2 h2 => by obtain ⟨rfl, rfl⟩ := h2; rw [hz1, hz2]; exact kk)
theorem V_cs1U {q : xS} {Y' : xY} {idx : Nat} {a1 : Value} {q' : xS} (hk : xLk Y.1.cls idx Y') (hc : xCS Y' 1) (d : decode Y.2.1 pc = .ok (.invokestatic idx, 3)) (con : Con E l Y' [a1] q (xR none q') xF) (fit : xFit Y Y' cs) (hz1 : Y'.2.2.2.2.1.cells = 0) (hz2 : Y'.2.2.2.2.1.slots = 0) (hW : (rest.map fun v => v.category).sum ≤ 8) (kk : V E l Y Q q' cs (pc + 3) ls rest) : V E l Y Q q cs pc ls (a1 :: rest) := by
  obtain ⟨h1, h2⟩ := hc
  exact V_cs (As := [a1]) hk h1 h2 d con fit hW (fun o q2 h2 => by obtain ⟨rfl, rfl⟩ := h2; rw [hz1, hz2]; exact kk)
theorem V_cs1P {q : xS} {Y' : xY} {idx : Nat} {a1 : Value} {P : xP} (hk : xLk Y.1.cls idx Y') (hc : xCS Y' 1) (d : decode Y.2.1 pc = .ok (.invokestatic idx, 3)) (con : Con E l Y' [a1] q P xF) (fit : xFit Y Y' cs) (hW : (rest.map fun v => v.category).sum ≤ 8) (kk : ∀ o q', P o q' → V E l Y Q q' (cs.1 + Y'.2.2.2.2.1.cells, cs.2 + Y'.2.2.2.2.1.slots) (pc + 3) ls (o.toList ++ rest)) : V E l Y Q q cs pc ls (a1 :: rest) := by
  obtain ⟨h1, h2⟩ := hc
  exact V_cs (As := [a1]) hk h1 h2 d con fit hW (kk)
theorem V_cs1RA {q : xS} {Y' : xY} {idx : Nat} {a1 : Value} {v : Value} {q' : xS} (hk : xLk Y.1.cls idx Y') (hc : xCS Y' 1) (d : decode Y.2.1 pc = .ok (.invokestatic idx, 3)) (con : Con E l Y' [a1] q (xR (some v) q') xF) (fit : xFit Y Y' cs) (hW : (rest.map fun v => v.category).sum ≤ 8) (kk : V E l Y Q q' (cs.1 + Y'.2.2.2.2.1.cells, cs.2 + Y'.2.2.2.2.1.slots) (pc + 3) ls (v :: rest)) : V E l Y Q q cs pc ls (a1 :: rest) := by
  obtain ⟨h1, h2⟩ := hc
  exact V_cs (As := [a1]) hk h1 h2 d con fit hW (fun o q2 h2 => by obtain ⟨rfl, rfl⟩ := h2; exact kk)
theorem V_cs1UA {q : xS} {Y' : xY} {idx : Nat} {a1 : Value} {q' : xS} (hk : xLk Y.1.cls idx Y') (hc : xCS Y' 1) (d : decode Y.2.1 pc = .ok (.invokestatic idx, 3)) (con : Con E l Y' [a1] q (xR none q') xF) (fit : xFit Y Y' cs) (hW : (rest.map fun v => v.category).sum ≤ 8) (kk : V E l Y Q q' (cs.1 + Y'.2.2.2.2.1.cells, cs.2 + Y'.2.2.2.2.1.slots) (pc + 3) ls rest) : V E l Y Q q cs pc ls (a1 :: rest) := by
  obtain ⟨h1, h2⟩ := hc
  exact V_cs (As := [a1]) hk h1 h2 d con fit hW (fun o q2 h2 => by obtain ⟨rfl, rfl⟩ := h2; exact kk)
theorem V_cs2R {q : xS} {Y' : xY} {idx : Nat} {a1 a2 : Value} {v : Value} {q' : xS} (hk : xLk Y.1.cls idx Y') (hc : xCS Y' 2) (d : decode Y.2.1 pc = .ok (.invokestatic idx, 3)) (con : Con E l Y' [a1, a2] q (xR (some v) q') xF) (fit : xFit Y Y' cs) (hz1 : Y'.2.2.2.2.1.cells = 0) (hz2 : Y'.2.2.2.2.1.slots = 0) (hW : (rest.map fun v => v.category).sum ≤ 8) (kk : V E l Y Q q' cs (pc + 3) ls (v :: rest)) : V E l Y Q q cs pc ls (a2 :: a1 :: rest) := by
  obtain ⟨h1, h2⟩ := hc
  exact V_cs (As := [a1, a2]) hk h1 h2 d con fit hW (fun o q2 h2 => by obtain ⟨rfl, rfl⟩ := h2; rw [hz1, hz2]; exact kk)
theorem V_cs2U {q : xS} {Y' : xY} {idx : Nat} {a1 a2 : Value} {q' : xS} (hk : xLk Y.1.cls idx Y') (hc : xCS Y' 2) (d : decode Y.2.1 pc = .ok (.invokestatic idx, 3)) (con : Con E l Y' [a1, a2] q (xR none q') xF) (fit : xFit Y Y' cs) (hz1 : Y'.2.2.2.2.1.cells = 0) (hz2 : Y'.2.2.2.2.1.slots = 0) (hW : (rest.map fun v => v.category).sum ≤ 8) (kk : V E l Y Q q' cs (pc + 3) ls rest) : V E l Y Q q cs pc ls (a2 :: a1 :: rest) := by
  obtain ⟨h1, h2⟩ := hc
  exact V_cs (As := [a1, a2]) hk h1 h2 d con fit hW (fun o q2 h2 => by obtain ⟨rfl, rfl⟩ := h2; rw [hz1, hz2]; exact kk)
theorem V_cs2P {q : xS} {Y' : xY} {idx : Nat} {a1 a2 : Value} {P : xP} (hk : xLk Y.1.cls idx Y') (hc : xCS Y' 2) (d : decode Y.2.1 pc = .ok (.invokestatic idx, 3)) (con : Con E l Y' [a1, a2] q P xF) (fit : xFit Y Y' cs) (hW : (rest.map fun v => v.category).sum ≤ 8) (kk : ∀ o q', P o q' → V E l Y Q q' (cs.1 + Y'.2.2.2.2.1.cells, cs.2 + Y'.2.2.2.2.1.slots) (pc + 3) ls (o.toList ++ rest)) : V E l Y Q q cs pc ls (a2 :: a1 :: rest) := by
  obtain ⟨h1, h2⟩ := hc
  exact V_cs (As := [a1, a2]) hk h1 h2 d con fit hW (kk)
theorem V_cs2RA {q : xS} {Y' : xY} {idx : Nat} {a1 a2 : Value} {v : Value} {q' : xS} (hk : xLk Y.1.cls idx Y') (hc : xCS Y' 2) (d : decode Y.2.1 pc = .ok (.invokestatic idx, 3)) (con : Con E l Y' [a1, a2] q (xR (some v) q') xF) (fit : xFit Y Y' cs) (hW : (rest.map fun v => v.category).sum ≤ 8) (kk : V E l Y Q q' (cs.1 + Y'.2.2.2.2.1.cells, cs.2 + Y'.2.2.2.2.1.slots) (pc + 3) ls (v :: rest)) : V E l Y Q q cs pc ls (a2 :: a1 :: rest) := by
  obtain ⟨h1, h2⟩ := hc
  exact V_cs (As := [a1, a2]) hk h1 h2 d con fit hW (fun o q2 h2 => by obtain ⟨rfl, rfl⟩ := h2; exact kk)
theorem V_cs2UA {q : xS} {Y' : xY} {idx : Nat} {a1 a2 : Value} {q' : xS} (hk : xLk Y.1.cls idx Y') (hc : xCS Y' 2) (d : decode Y.2.1 pc = .ok (.invokestatic idx, 3)) (con : Con E l Y' [a1, a2] q (xR none q') xF) (fit : xFit Y Y' cs) (hW : (rest.map fun v => v.category).sum ≤ 8) (kk : V E l Y Q q' (cs.1 + Y'.2.2.2.2.1.cells, cs.2 + Y'.2.2.2.2.1.slots) (pc + 3) ls rest) : V E l Y Q q cs pc ls (a2 :: a1 :: rest) := by
  obtain ⟨h1, h2⟩ := hc
  exact V_cs (As := [a1, a2]) hk h1 h2 d con fit hW (fun o q2 h2 => by obtain ⟨rfl, rfl⟩ := h2; exact kk)
theorem V_cs3R {q : xS} {Y' : xY} {idx : Nat} {a1 a2 a3 : Value} {v : Value} {q' : xS} (hk : xLk Y.1.cls idx Y') (hc : xCS Y' 3) (d : decode Y.2.1 pc = .ok (.invokestatic idx, 3)) (con : Con E l Y' [a1, a2, a3] q (xR (some v) q') xF) (fit : xFit Y Y' cs) (hz1 : Y'.2.2.2.2.1.cells = 0) (hz2 : Y'.2.2.2.2.1.slots = 0) (hW : (rest.map fun v => v.category).sum ≤ 8) (kk : V E l Y Q q' cs (pc + 3) ls (v :: rest)) : V E l Y Q q cs pc ls (a3 :: a2 :: a1 :: rest) := by
  obtain ⟨h1, h2⟩ := hc
  exact V_cs (As := [a1, a2, a3]) hk h1 h2 d con fit hW (fun o q2 h2 => by obtain ⟨rfl, rfl⟩ := h2; rw [hz1, hz2]; exact kk)
theorem V_cs3U {q : xS} {Y' : xY} {idx : Nat} {a1 a2 a3 : Value} {q' : xS} (hk : xLk Y.1.cls idx Y') (hc : xCS Y' 3) (d : decode Y.2.1 pc = .ok (.invokestatic idx, 3)) (con : Con E l Y' [a1, a2, a3] q (xR none q') xF) (fit : xFit Y Y' cs) (hz1 : Y'.2.2.2.2.1.cells = 0) (hz2 : Y'.2.2.2.2.1.slots = 0) (hW : (rest.map fun v => v.category).sum ≤ 8) (kk : V E l Y Q q' cs (pc + 3) ls rest) : V E l Y Q q cs pc ls (a3 :: a2 :: a1 :: rest) := by
  obtain ⟨h1, h2⟩ := hc
  exact V_cs (As := [a1, a2, a3]) hk h1 h2 d con fit hW (fun o q2 h2 => by obtain ⟨rfl, rfl⟩ := h2; rw [hz1, hz2]; exact kk)
theorem V_cs3P {q : xS} {Y' : xY} {idx : Nat} {a1 a2 a3 : Value} {P : xP} (hk : xLk Y.1.cls idx Y') (hc : xCS Y' 3) (d : decode Y.2.1 pc = .ok (.invokestatic idx, 3)) (con : Con E l Y' [a1, a2, a3] q P xF) (fit : xFit Y Y' cs) (hW : (rest.map fun v => v.category).sum ≤ 8) (kk : ∀ o q', P o q' → V E l Y Q q' (cs.1 + Y'.2.2.2.2.1.cells, cs.2 + Y'.2.2.2.2.1.slots) (pc + 3) ls (o.toList ++ rest)) : V E l Y Q q cs pc ls (a3 :: a2 :: a1 :: rest) := by
  obtain ⟨h1, h2⟩ := hc
  exact V_cs (As := [a1, a2, a3]) hk h1 h2 d con fit hW (kk)
theorem V_cs3RA {q : xS} {Y' : xY} {idx : Nat} {a1 a2 a3 : Value} {v : Value} {q' : xS} (hk : xLk Y.1.cls idx Y') (hc : xCS Y' 3) (d : decode Y.2.1 pc = .ok (.invokestatic idx, 3)) (con : Con E l Y' [a1, a2, a3] q (xR (some v) q') xF) (fit : xFit Y Y' cs) (hW : (rest.map fun v => v.category).sum ≤ 8) (kk : V E l Y Q q' (cs.1 + Y'.2.2.2.2.1.cells, cs.2 + Y'.2.2.2.2.1.slots) (pc + 3) ls (v :: rest)) : V E l Y Q q cs pc ls (a3 :: a2 :: a1 :: rest) := by
  obtain ⟨h1, h2⟩ := hc
  exact V_cs (As := [a1, a2, a3]) hk h1 h2 d con fit hW (fun o q2 h2 => by obtain ⟨rfl, rfl⟩ := h2; exact kk)
theorem V_cs3UA {q : xS} {Y' : xY} {idx : Nat} {a1 a2 a3 : Value} {q' : xS} (hk : xLk Y.1.cls idx Y') (hc : xCS Y' 3) (d : decode Y.2.1 pc = .ok (.invokestatic idx, 3)) (con : Con E l Y' [a1, a2, a3] q (xR none q') xF) (fit : xFit Y Y' cs) (hW : (rest.map fun v => v.category).sum ≤ 8) (kk : V E l Y Q q' (cs.1 + Y'.2.2.2.2.1.cells, cs.2 + Y'.2.2.2.2.1.slots) (pc + 3) ls rest) : V E l Y Q q cs pc ls (a3 :: a2 :: a1 :: rest) := by
  obtain ⟨h1, h2⟩ := hc
  exact V_cs (As := [a1, a2, a3]) hk h1 h2 d con fit hW (fun o q2 h2 => by obtain ⟨rfl, rfl⟩ := h2; exact kk)
theorem V_cs4R {q : xS} {Y' : xY} {idx : Nat} {a1 a2 a3 a4 : Value} {v : Value} {q' : xS} (hk : xLk Y.1.cls idx Y') (hc : xCS Y' 4) (d : decode Y.2.1 pc = .ok (.invokestatic idx, 3)) (con : Con E l Y' [a1, a2, a3, a4] q (xR (some v) q') xF) (fit : xFit Y Y' cs) (hz1 : Y'.2.2.2.2.1.cells = 0) (hz2 : Y'.2.2.2.2.1.slots = 0) (hW : (rest.map fun v => v.category).sum ≤ 8) (kk : V E l Y Q q' cs (pc + 3) ls (v :: rest)) : V E l Y Q q cs pc ls (a4 :: a3 :: a2 :: a1 :: rest) := by
  obtain ⟨h1, h2⟩ := hc
  exact V_cs (As := [a1, a2, a3, a4]) hk h1 h2 d con fit hW (fun o q2 h2 => by obtain ⟨rfl, rfl⟩ := h2; rw [hz1, hz2]; exact kk)
theorem V_cs4U {q : xS} {Y' : xY} {idx : Nat} {a1 a2 a3 a4 : Value} {q' : xS} (hk : xLk Y.1.cls idx Y') (hc : xCS Y' 4) (d : decode Y.2.1 pc = .ok (.invokestatic idx, 3)) (con : Con E l Y' [a1, a2, a3, a4] q (xR none q') xF) (fit : xFit Y Y' cs) (hz1 : Y'.2.2.2.2.1.cells = 0) (hz2 : Y'.2.2.2.2.1.slots = 0) (hW : (rest.map fun v => v.category).sum ≤ 8) (kk : V E l Y Q q' cs (pc + 3) ls rest) : V E l Y Q q cs pc ls (a4 :: a3 :: a2 :: a1 :: rest) := by
  obtain ⟨h1, h2⟩ := hc
  exact V_cs (As := [a1, a2, a3, a4]) hk h1 h2 d con fit hW (fun o q2 h2 => by obtain ⟨rfl, rfl⟩ := h2; rw [hz1, hz2]; exact kk)
theorem V_cs4P {q : xS} {Y' : xY} {idx : Nat} {a1 a2 a3 a4 : Value} {P : xP} (hk : xLk Y.1.cls idx Y') (hc : xCS Y' 4) (d : decode Y.2.1 pc = .ok (.invokestatic idx, 3)) (con : Con E l Y' [a1, a2, a3, a4] q P xF) (fit : xFit Y Y' cs) (hW : (rest.map fun v => v.category).sum ≤ 8) (kk : ∀ o q', P o q' → V E l Y Q q' (cs.1 + Y'.2.2.2.2.1.cells, cs.2 + Y'.2.2.2.2.1.slots) (pc + 3) ls (o.toList ++ rest)) : V E l Y Q q cs pc ls (a4 :: a3 :: a2 :: a1 :: rest) := by
  obtain ⟨h1, h2⟩ := hc
  exact V_cs (As := [a1, a2, a3, a4]) hk h1 h2 d con fit hW (kk)
theorem V_cs4RA {q : xS} {Y' : xY} {idx : Nat} {a1 a2 a3 a4 : Value} {v : Value} {q' : xS} (hk : xLk Y.1.cls idx Y') (hc : xCS Y' 4) (d : decode Y.2.1 pc = .ok (.invokestatic idx, 3)) (con : Con E l Y' [a1, a2, a3, a4] q (xR (some v) q') xF) (fit : xFit Y Y' cs) (hW : (rest.map fun v => v.category).sum ≤ 8) (kk : V E l Y Q q' (cs.1 + Y'.2.2.2.2.1.cells, cs.2 + Y'.2.2.2.2.1.slots) (pc + 3) ls (v :: rest)) : V E l Y Q q cs pc ls (a4 :: a3 :: a2 :: a1 :: rest) := by
  obtain ⟨h1, h2⟩ := hc
  exact V_cs (As := [a1, a2, a3, a4]) hk h1 h2 d con fit hW (fun o q2 h2 => by obtain ⟨rfl, rfl⟩ := h2; exact kk)
theorem V_cs4UA {q : xS} {Y' : xY} {idx : Nat} {a1 a2 a3 a4 : Value} {q' : xS} (hk : xLk Y.1.cls idx Y') (hc : xCS Y' 4) (d : decode Y.2.1 pc = .ok (.invokestatic idx, 3)) (con : Con E l Y' [a1, a2, a3, a4] q (xR none q') xF) (fit : xFit Y Y' cs) (hW : (rest.map fun v => v.category).sum ≤ 8) (kk : V E l Y Q q' (cs.1 + Y'.2.2.2.2.1.cells, cs.2 + Y'.2.2.2.2.1.slots) (pc + 3) ls rest) : V E l Y Q q cs pc ls (a4 :: a3 :: a2 :: a1 :: rest) := by
  obtain ⟨h1, h2⟩ := hc
  exact V_cs (As := [a1, a2, a3, a4]) hk h1 h2 d con fit hW (fun o q2 h2 => by obtain ⟨rfl, rfl⟩ := h2; exact kk)
theorem V_cs5R {q : xS} {Y' : xY} {idx : Nat} {a1 a2 a3 a4 a5 : Value} {v : Value} {q' : xS} (hk : xLk Y.1.cls idx Y') (hc : xCS Y' 5) (d : decode Y.2.1 pc = .ok (.invokestatic idx, 3)) (con : Con E l Y' [a1, a2, a3, a4, a5] q (xR (some v) q') xF) (fit : xFit Y Y' cs) (hz1 : Y'.2.2.2.2.1.cells = 0) (hz2 : Y'.2.2.2.2.1.slots = 0) (hW : (rest.map fun v => v.category).sum ≤ 8) (kk : V E l Y Q q' cs (pc + 3) ls (v :: rest)) : V E l Y Q q cs pc ls (a5 :: a4 :: a3 :: a2 :: a1 :: rest) := by
  obtain ⟨h1, h2⟩ := hc
  exact V_cs (As := [a1, a2, a3, a4, a5]) hk h1 h2 d con fit hW (fun o q2 h2 => by obtain ⟨rfl, rfl⟩ := h2; rw [hz1, hz2]; exact kk)
theorem V_cs5U {q : xS} {Y' : xY} {idx : Nat} {a1 a2 a3 a4 a5 : Value} {q' : xS} (hk : xLk Y.1.cls idx Y') (hc : xCS Y' 5) (d : decode Y.2.1 pc = .ok (.invokestatic idx, 3)) (con : Con E l Y' [a1, a2, a3, a4, a5] q (xR none q') xF) (fit : xFit Y Y' cs) (hz1 : Y'.2.2.2.2.1.cells = 0) (hz2 : Y'.2.2.2.2.1.slots = 0) (hW : (rest.map fun v => v.category).sum ≤ 8) (kk : V E l Y Q q' cs (pc + 3) ls rest) : V E l Y Q q cs pc ls (a5 :: a4 :: a3 :: a2 :: a1 :: rest) := by
  obtain ⟨h1, h2⟩ := hc
  exact V_cs (As := [a1, a2, a3, a4, a5]) hk h1 h2 d con fit hW (fun o q2 h2 => by obtain ⟨rfl, rfl⟩ := h2; rw [hz1, hz2]; exact kk)
theorem V_cs5P {q : xS} {Y' : xY} {idx : Nat} {a1 a2 a3 a4 a5 : Value} {P : xP} (hk : xLk Y.1.cls idx Y') (hc : xCS Y' 5) (d : decode Y.2.1 pc = .ok (.invokestatic idx, 3)) (con : Con E l Y' [a1, a2, a3, a4, a5] q P xF) (fit : xFit Y Y' cs) (hW : (rest.map fun v => v.category).sum ≤ 8) (kk : ∀ o q', P o q' → V E l Y Q q' (cs.1 + Y'.2.2.2.2.1.cells, cs.2 + Y'.2.2.2.2.1.slots) (pc + 3) ls (o.toList ++ rest)) : V E l Y Q q cs pc ls (a5 :: a4 :: a3 :: a2 :: a1 :: rest) := by
  obtain ⟨h1, h2⟩ := hc
  exact V_cs (As := [a1, a2, a3, a4, a5]) hk h1 h2 d con fit hW (kk)
theorem V_cs5RA {q : xS} {Y' : xY} {idx : Nat} {a1 a2 a3 a4 a5 : Value} {v : Value} {q' : xS} (hk : xLk Y.1.cls idx Y') (hc : xCS Y' 5) (d : decode Y.2.1 pc = .ok (.invokestatic idx, 3)) (con : Con E l Y' [a1, a2, a3, a4, a5] q (xR (some v) q') xF) (fit : xFit Y Y' cs) (hW : (rest.map fun v => v.category).sum ≤ 8) (kk : V E l Y Q q' (cs.1 + Y'.2.2.2.2.1.cells, cs.2 + Y'.2.2.2.2.1.slots) (pc + 3) ls (v :: rest)) : V E l Y Q q cs pc ls (a5 :: a4 :: a3 :: a2 :: a1 :: rest) := by
  obtain ⟨h1, h2⟩ := hc
  exact V_cs (As := [a1, a2, a3, a4, a5]) hk h1 h2 d con fit hW (fun o q2 h2 => by obtain ⟨rfl, rfl⟩ := h2; exact kk)
theorem V_cs5UA {q : xS} {Y' : xY} {idx : Nat} {a1 a2 a3 a4 a5 : Value} {q' : xS} (hk : xLk Y.1.cls idx Y') (hc : xCS Y' 5) (d : decode Y.2.1 pc = .ok (.invokestatic idx, 3)) (con : Con E l Y' [a1, a2, a3, a4, a5] q (xR none q') xF) (fit : xFit Y Y' cs) (hW : (rest.map fun v => v.category).sum ≤ 8) (kk : V E l Y Q q' (cs.1 + Y'.2.2.2.2.1.cells, cs.2 + Y'.2.2.2.2.1.slots) (pc + 3) ls rest) : V E l Y Q q cs pc ls (a5 :: a4 :: a3 :: a2 :: a1 :: rest) := by
  obtain ⟨h1, h2⟩ := hc
  exact V_cs (As := [a1, a2, a3, a4, a5]) hk h1 h2 d con fit hW (fun o q2 h2 => by obtain ⟨rfl, rfl⟩ := h2; exact kk)
theorem V_cs6R {q : xS} {Y' : xY} {idx : Nat} {a1 a2 a3 a4 a5 a6 : Value} {v : Value} {q' : xS} (hk : xLk Y.1.cls idx Y') (hc : xCS Y' 6) (d : decode Y.2.1 pc = .ok (.invokestatic idx, 3)) (con : Con E l Y' [a1, a2, a3, a4, a5, a6] q (xR (some v) q') xF) (fit : xFit Y Y' cs) (hz1 : Y'.2.2.2.2.1.cells = 0) (hz2 : Y'.2.2.2.2.1.slots = 0) (hW : (rest.map fun v => v.category).sum ≤ 8) (kk : V E l Y Q q' cs (pc + 3) ls (v :: rest)) : V E l Y Q q cs pc ls (a6 :: a5 :: a4 :: a3 :: a2 :: a1 :: rest) := by
  obtain ⟨h1, h2⟩ := hc
  exact V_cs (As := [a1, a2, a3, a4, a5, a6]) hk h1 h2 d con fit hW (fun o q2 h2 => by obtain ⟨rfl, rfl⟩ := h2; rw [hz1, hz2]; exact kk)
theorem V_cs6U {q : xS} {Y' : xY} {idx : Nat} {a1 a2 a3 a4 a5 a6 : Value} {q' : xS} (hk : xLk Y.1.cls idx Y') (hc : xCS Y' 6) (d : decode Y.2.1 pc = .ok (.invokestatic idx, 3)) (con : Con E l Y' [a1, a2, a3, a4, a5, a6] q (xR none q') xF) (fit : xFit Y Y' cs) (hz1 : Y'.2.2.2.2.1.cells = 0) (hz2 : Y'.2.2.2.2.1.slots = 0) (hW : (rest.map fun v => v.category).sum ≤ 8) (kk : V E l Y Q q' cs (pc + 3) ls rest) : V E l Y Q q cs pc ls (a6 :: a5 :: a4 :: a3 :: a2 :: a1 :: rest) := by
  obtain ⟨h1, h2⟩ := hc
  exact V_cs (As := [a1, a2, a3, a4, a5, a6]) hk h1 h2 d con fit hW (fun o q2 h2 => by obtain ⟨rfl, rfl⟩ := h2; rw [hz1, hz2]; exact kk)
theorem V_cs6P {q : xS} {Y' : xY} {idx : Nat} {a1 a2 a3 a4 a5 a6 : Value} {P : xP} (hk : xLk Y.1.cls idx Y') (hc : xCS Y' 6) (d : decode Y.2.1 pc = .ok (.invokestatic idx, 3)) (con : Con E l Y' [a1, a2, a3, a4, a5, a6] q P xF) (fit : xFit Y Y' cs) (hW : (rest.map fun v => v.category).sum ≤ 8) (kk : ∀ o q', P o q' → V E l Y Q q' (cs.1 + Y'.2.2.2.2.1.cells, cs.2 + Y'.2.2.2.2.1.slots) (pc + 3) ls (o.toList ++ rest)) : V E l Y Q q cs pc ls (a6 :: a5 :: a4 :: a3 :: a2 :: a1 :: rest) := by
  obtain ⟨h1, h2⟩ := hc
  exact V_cs (As := [a1, a2, a3, a4, a5, a6]) hk h1 h2 d con fit hW (kk)
theorem V_cs6RA {q : xS} {Y' : xY} {idx : Nat} {a1 a2 a3 a4 a5 a6 : Value} {v : Value} {q' : xS} (hk : xLk Y.1.cls idx Y') (hc : xCS Y' 6) (d : decode Y.2.1 pc = .ok (.invokestatic idx, 3)) (con : Con E l Y' [a1, a2, a3, a4, a5, a6] q (xR (some v) q') xF) (fit : xFit Y Y' cs) (hW : (rest.map fun v => v.category).sum ≤ 8) (kk : V E l Y Q q' (cs.1 + Y'.2.2.2.2.1.cells, cs.2 + Y'.2.2.2.2.1.slots) (pc + 3) ls (v :: rest)) : V E l Y Q q cs pc ls (a6 :: a5 :: a4 :: a3 :: a2 :: a1 :: rest) := by
  obtain ⟨h1, h2⟩ := hc
  exact V_cs (As := [a1, a2, a3, a4, a5, a6]) hk h1 h2 d con fit hW (fun o q2 h2 => by obtain ⟨rfl, rfl⟩ := h2; exact kk)
theorem V_cs6UA {q : xS} {Y' : xY} {idx : Nat} {a1 a2 a3 a4 a5 a6 : Value} {q' : xS} (hk : xLk Y.1.cls idx Y') (hc : xCS Y' 6) (d : decode Y.2.1 pc = .ok (.invokestatic idx, 3)) (con : Con E l Y' [a1, a2, a3, a4, a5, a6] q (xR none q') xF) (fit : xFit Y Y' cs) (hW : (rest.map fun v => v.category).sum ≤ 8) (kk : V E l Y Q q' (cs.1 + Y'.2.2.2.2.1.cells, cs.2 + Y'.2.2.2.2.1.slots) (pc + 3) ls rest) : V E l Y Q q cs pc ls (a6 :: a5 :: a4 :: a3 :: a2 :: a1 :: rest) := by
  obtain ⟨h1, h2⟩ := hc
  exact V_cs (As := [a1, a2, a3, a4, a5, a6]) hk h1 h2 d con fit hW (fun o q2 h2 => by obtain ⟨rfl, rfl⟩ := h2; exact kk)
end VK
theorem ft_L_act_X5_empty : xFit Y_L_act Y_X5_empty (0, 0) := xFit.mk (by decide) (by decide) (by decide) (by decide)
theorem ft_L_alike_X5_errorPosition : xFit Y_L_alike Y_X5_errorPosition (0, 0) := xFit.mk (by decide) (by decide) (by decide) (by decide)
theorem ft_L_follows_X5_trueRain : xFit Y_L_follows Y_X5_trueRain (0, 0) := xFit.mk (by decide) (by decide) (by decide) (by decide)
theorem ft_L_follows_L_in : xFit Y_L_follows Y_L_in (0, 0) := xFit.mk (by decide) (by decide) (by decide) (by decide)
theorem ft_L_follows_X5_empty : xFit Y_L_follows Y_X5_empty (0, 0) := xFit.mk (by decide) (by decide) (by decide) (by decide)
theorem ft_L_kept_X5_trueRain : xFit Y_L_kept Y_X5_trueRain (0, 0) := xFit.mk (by decide) (by decide) (by decide) (by decide)
theorem ft_L_kept_L_in : xFit Y_L_kept Y_L_in (0, 0) := xFit.mk (by decide) (by decide) (by decide) (by decide)
theorem ft_L_now_X5_trueRain : xFit Y_L_now Y_X5_trueRain (0, 0) := xFit.mk (by decide) (by decide) (by decide) (by decide)
theorem ft_L_tells_X5_clearText : xFit Y_L_tells Y_X5_clearText (0, 0) := xFit.mk (by decide) (by decide) (by decide) (by decide)
theorem ft_L_tells_X5_errorPosition : xFit Y_L_tells Y_X5_errorPosition (0, 0) := xFit.mk (by decide) (by decide) (by decide) (by decide)
theorem ft_X0_copyFrom_X5_copyRow : xFit Y_X0_copyFrom Y_X5_copyRow (0, 0) := xFit.mk (by decide) (by decide) (by decide) (by decide)
theorem ft_X0_copyFrom_X1_copyFrom : xFit Y_X0_copyFrom Y_X1_copyFrom (0, 0) := xFit.mk (by decide) (by decide) (by decide) (by decide)
theorem ft_X0_dropCount_X5_sumOf : xFit Y_X0_dropCount Y_X5_sumOf (0, 0) := xFit.mk (by decide) (by decide) (by decide) (by decide)
theorem ft_X0_enter_X5_cube : xFit Y_X0_enter Y_X5_cube (0, 0) := xFit.mk (by decide) (by decide) (by decide) (by decide)
theorem ft_X0_enter_X1_push : xFit Y_X0_enter Y_X1_push (0, 0) := xFit.mk (by decide) (by decide) (by decide) (by decide)
theorem ft_X0_rainOfRecord_X1_back : xFit Y_X0_rainOfRecord Y_X1_back (0, 0) := xFit.mk (by decide) (by decide) (by decide) (by decide)
theorem ft_X0_rainOfRecord_X5_cube : xFit Y_X0_rainOfRecord Y_X5_cube (0, 0) := xFit.mk (by decide) (by decide) (by decide) (by decide)
theorem ft_X1_copyFrom_X5_copyRow : xFit Y_X1_copyFrom Y_X5_copyRow (0, 0) := xFit.mk (by decide) (by decide) (by decide) (by decide)
theorem ft_X1_longestRunOf_X1_back : xFit Y_X1_longestRunOf Y_X1_back (0, 0) := xFit.mk (by decide) (by decide) (by decide) (by decide)
theorem ft_X1_placesOf_X1_standsAt : xFit Y_X1_placesOf Y_X1_standsAt (0, 0) := xFit.mk (by decide) (by decide) (by decide) (by decide)
theorem ft_X1_standsAt_X1_back : xFit Y_X1_standsAt Y_X1_back (0, 0) := xFit.mk (by decide) (by decide) (by decide) (by decide)
theorem ft_X2_closePulse_X2_binOf : xFit Y_X2_closePulse Y_X2_binOf (0, 0) := xFit.mk (by decide) (by decide) (by decide) (by decide)
theorem ft_X2_copyFrom_X2_copySetupFrom : xFit Y_X2_copyFrom Y_X2_copySetupFrom (0, 0) := xFit.mk (by decide) (by decide) (by decide) (by decide)
theorem ft_X2_copyFrom_X5_copyRow : xFit Y_X2_copyFrom Y_X5_copyRow (0, 0) := xFit.mk (by decide) (by decide) (by decide) (by decide)
theorem ft_X2_copySetupFrom_X5_copyRow : xFit Y_X2_copySetupFrom Y_X5_copyRow (0, 0) := xFit.mk (by decide) (by decide) (by decide) (by decide)
theorem ft_X2_emptyBins_X5_clearRow : xFit Y_X2_emptyBins Y_X5_clearRow (0, 0) := xFit.mk (by decide) (by decide) (by decide) (by decide)
theorem ft_X2_endByLaw_X2_lowerEnd : xFit Y_X2_endByLaw Y_X2_lowerEnd (0, 0) := xFit.mk (by decide) (by decide) (by decide) (by decide)
theorem ft_X2_endByLaw_X2_upperEnd : xFit Y_X2_endByLaw Y_X2_upperEnd (0, 0) := xFit.mk (by decide) (by decide) (by decide) (by decide)
theorem ft_X2_fateOf_X2_levelAt : xFit Y_X2_fateOf Y_X2_levelAt (0, 0) := xFit.mk (by decide) (by decide) (by decide) (by decide)
theorem ft_X2_letPass_X2_closePulse : xFit Y_X2_letPass Y_X2_closePulse (0, 0) := xFit.mk (by decide) (by decide) (by decide) (by decide)
theorem ft_X2_levelAt_X5_isOutside : xFit Y_X2_levelAt Y_X5_isOutside (0, 0) := xFit.mk (by decide) (by decide) (by decide) (by decide)
theorem ft_X2_openPulse_X2_strike : xFit Y_X2_openPulse Y_X2_strike (0, 0) := xFit.mk (by decide) (by decide) (by decide) (by decide)
theorem ft_X2_receive_X2_strengthOf : xFit Y_X2_receive Y_X2_strengthOf (0, 0) := xFit.mk (by decide) (by decide) (by decide) (by decide)
theorem ft_X2_receive_X2_fateOf : xFit Y_X2_receive Y_X2_fateOf (0, 0) := xFit.mk (by decide) (by decide) (by decide) (by decide)
theorem ft_X2_receive_X2_strike : xFit Y_X2_receive Y_X2_strike (0, 0) := xFit.mk (by decide) (by decide) (by decide) (by decide)
theorem ft_X2_receive_X2_closePulse : xFit Y_X2_receive Y_X2_closePulse (0, 0) := xFit.mk (by decide) (by decide) (by decide) (by decide)
theorem ft_X2_receive_X2_levelAt : xFit Y_X2_receive Y_X2_levelAt (0, 0) := xFit.mk (by decide) (by decide) (by decide) (by decide)
theorem ft_X2_receive_X2_openPulse : xFit Y_X2_receive Y_X2_openPulse (0, 0) := xFit.mk (by decide) (by decide) (by decide) (by decide)
theorem ft_X2_reckonedRain_X2_endByLaw : xFit Y_X2_reckonedRain Y_X2_endByLaw (0, 0) := xFit.mk (by decide) (by decide) (by decide) (by decide)
theorem ft_X2_reckonedRain_X5_wholeRoot : xFit Y_X2_reckonedRain Y_X5_wholeRoot (0, 0) := xFit.mk (by decide) (by decide) (by decide) (by decide)
theorem ft_X2_reckonedRain_X5_cube : xFit Y_X2_reckonedRain Y_X5_cube (0, 0) := xFit.mk (by decide) (by decide) (by decide) (by decide)
theorem ft_X3_copyFrom_X2_copyFrom : xFit Y_X3_copyFrom Y_X2_copyFrom (0, 0) := xFit.mk (by decide) (by decide) (by decide) (by decide)
theorem ft_X3_copyFrom_X0_copyFrom : xFit Y_X3_copyFrom Y_X0_copyFrom (0, 0) := xFit.mk (by decide) (by decide) (by decide) (by decide)
theorem ft_X3_letFall_X2_receive : xFit Y_X3_letFall Y_X2_receive (0, 0) := xFit.mk (by decide) (by decide) (by decide) (by decide)
theorem ft_X3_letFall_X0_enter : xFit Y_X3_letFall Y_X0_enter (0, 0) := xFit.mk (by decide) (by decide) (by decide) (by decide)
theorem ft_X4_add_X4_isFull : xFit Y_X4_add Y_X4_isFull (0, 0) := xFit.mk (by decide) (by decide) (by decide) (by decide)
theorem ft_X4_digitAt_X4_signAt : xFit Y_X4_digitAt Y_X4_signAt (0, 0) := xFit.mk (by decide) (by decide) (by decide) (by decide)
theorem ft_X4_errorInDrop_X4_errorInNumber : xFit Y_X4_errorInDrop Y_X4_errorInNumber (0, 0) := xFit.mk (by decide) (by decide) (by decide) (by decide)
theorem ft_X4_errorInNumber_X4_digitAt : xFit Y_X4_errorInNumber Y_X4_digitAt (0, 0) := xFit.mk (by decide) (by decide) (by decide) (by decide)
theorem ft_X4_errorInNumber_X5_isOutside : xFit Y_X4_errorInNumber Y_X5_isOutside (0, 0) := xFit.mk (by decide) (by decide) (by decide) (by decide)
theorem ft_X4_errorInPart_X4_signAt : xFit Y_X4_errorInPart Y_X4_signAt (0, 0) := xFit.mk (by decide) (by decide) (by decide) (by decide)
theorem ft_X4_errorInPart_X4_errorInDrop : xFit Y_X4_errorInPart Y_X4_errorInDrop (0, 0) := xFit.mk (by decide) (by decide) (by decide) (by decide)
theorem ft_X4_errorInPart_X4_errorInNumber : xFit Y_X4_errorInPart Y_X4_errorInNumber (0, 0) := xFit.mk (by decide) (by decide) (by decide) (by decide)
theorem ft_X4_errorInPart_X4_errorInSetting : xFit Y_X4_errorInPart Y_X4_errorInSetting (0, 0) := xFit.mk (by decide) (by decide) (by decide) (by decide)
theorem ft_X4_errorInSetting_X4_errorInNumber : xFit Y_X4_errorInSetting Y_X4_errorInNumber (0, 0) := xFit.mk (by decide) (by decide) (by decide) (by decide)
theorem ft_X4_firstError_X4_signAt : xFit Y_X4_firstError Y_X4_signAt (0, 0) := xFit.mk (by decide) (by decide) (by decide) (by decide)
theorem ft_X4_firstError_X4_errorInPart : xFit Y_X4_firstError Y_X4_errorInPart (0, 0) := xFit.mk (by decide) (by decide) (by decide) (by decide)
theorem ft_X4_firstError_X4_partLength : xFit Y_X4_firstError Y_X4_partLength (0, 0) := xFit.mk (by decide) (by decide) (by decide) (by decide)
theorem ft_X4_numberAt_X4_digitAt : xFit Y_X4_numberAt Y_X4_digitAt (0, 0) := xFit.mk (by decide) (by decide) (by decide) (by decide)
theorem ft_X4_partLength_X4_signAt : xFit Y_X4_partLength Y_X4_signAt (0, 0) := xFit.mk (by decide) (by decide) (by decide) (by decide)
theorem ft_X5_about_X0_dropCount : xFit Y_X5_about Y_X0_dropCount (0, 0) := xFit.mk (by decide) (by decide) (by decide) (by decide)
theorem ft_X5_about_X0_countOf : xFit Y_X5_about Y_X0_countOf (0, 0) := xFit.mk (by decide) (by decide) (by decide) (by decide)
theorem ft_X5_about_X5_sumOf : xFit Y_X5_about Y_X5_sumOf (0, 0) := xFit.mk (by decide) (by decide) (by decide) (by decide)
theorem ft_X5_about_X2_levelAt : xFit Y_X5_about Y_X2_levelAt (0, 0) := xFit.mk (by decide) (by decide) (by decide) (by decide)
theorem ft_X5_append_X5_isOutside : xFit Y_X5_append Y_X5_isOutside (0, 0) := xFit.mk (by decide) (by decide) (by decide) (by decide)
theorem ft_X5_append_X4_isFull : xFit Y_X5_append Y_X4_isFull (0, 0) := xFit.mk (by decide) (by decide) (by decide) (by decide)
theorem ft_X5_append_X4_add : xFit Y_X5_append Y_X4_add (0, 0) := xFit.mk (by decide) (by decide) (by decide) (by decide)
theorem ft_X5_areFates_X5_isOutside : xFit Y_X5_areFates Y_X5_isOutside (0, 0) := xFit.mk (by decide) (by decide) (by decide) (by decide)
theorem ft_X5_bestWindow_X5_isOutside : xFit Y_X5_bestWindow Y_X5_isOutside (0, 0) := xFit.mk (by decide) (by decide) (by decide) (by decide)
theorem ft_X5_bestWindow_X0_rainOfRecord : xFit Y_X5_bestWindow Y_X0_rainOfRecord (0, 0) := xFit.mk (by decide) (by decide) (by decide) (by decide)
theorem ft_X5_bestWindow_X5_replayRecord : xFit Y_X5_bestWindow Y_X5_replayRecord (0, 0) := xFit.mk (by decide) (by decide) (by decide) (by decide)
theorem ft_X5_bestWindow_X2_closePulse : xFit Y_X5_bestWindow Y_X2_closePulse (0, 0) := xFit.mk (by decide) (by decide) (by decide) (by decide)
theorem ft_X5_bestWindow_X2_reckonedRain : xFit Y_X5_bestWindow Y_X2_reckonedRain (0, 0) := xFit.mk (by decide) (by decide) (by decide) (by decide)
theorem ft_X5_bin_X5_isOutside : xFit Y_X5_bin Y_X5_isOutside (0, 0) := xFit.mk (by decide) (by decide) (by decide) (by decide)
theorem ft_X5_bin_X2_lowerEnd : xFit Y_X5_bin Y_X2_lowerEnd (0, 0) := xFit.mk (by decide) (by decide) (by decide) (by decide)
theorem ft_X5_bin_X2_upperEnd : xFit Y_X5_bin Y_X2_upperEnd (0, 0) := xFit.mk (by decide) (by decide) (by decide) (by decide)
theorem ft_X5_clearText_X4_wipe : xFit Y_X5_clearText Y_X4_wipe (0, 0) := xFit.mk (by decide) (by decide) (by decide) (by decide)
theorem ft_X5_drop_X5_isFall : xFit Y_X5_drop Y_X5_isFall (0, 0) := xFit.mk (by decide) (by decide) (by decide) (by decide)
theorem ft_X5_drop_X5_remember : xFit Y_X5_drop Y_X5_remember (0, 0) := xFit.mk (by decide) (by decide) (by decide) (by decide)
theorem ft_X5_drop_X3_letFall : xFit Y_X5_drop Y_X3_letFall (0, 0) := xFit.mk (by decide) (by decide) (by decide) (by decide)
theorem ft_X5_empty_X5_remember : xFit Y_X5_empty Y_X5_remember (0, 0) := xFit.mk (by decide) (by decide) (by decide) (by decide)
theorem ft_X5_empty_X5_sumOf : xFit Y_X5_empty Y_X5_sumOf (0, 0) := xFit.mk (by decide) (by decide) (by decide) (by decide)
theorem ft_X5_empty_X2_emptyBins : xFit Y_X5_empty Y_X2_emptyBins (0, 0) := xFit.mk (by decide) (by decide) (by decide) (by decide)
theorem ft_X5_errorPosition_X4_firstError : xFit Y_X5_errorPosition Y_X4_firstError (0, 0) := xFit.mk (by decide) (by decide) (by decide) (by decide)
theorem ft_X5_fate_X1_back : xFit Y_X5_fate Y_X1_back (0, 0) := xFit.mk (by decide) (by decide) (by decide) (by decide)
theorem ft_X5_isFall_X5_isOutside : xFit Y_X5_isFall Y_X5_isOutside (0, 0) := xFit.mk (by decide) (by decide) (by decide) (by decide)
theorem ft_X5_isSetting_X5_isOutside : xFit Y_X5_isSetting Y_X5_isOutside (0, 0) := xFit.mk (by decide) (by decide) (by decide) (by decide)
theorem ft_X5_leastSize_X5_isOutside : xFit Y_X5_leastSize Y_X5_isOutside (0, 0) := xFit.mk (by decide) (by decide) (by decide) (by decide)
theorem ft_X5_leastSize_X2_strengthOf : xFit Y_X5_leastSize Y_X2_strengthOf (0, 0) := xFit.mk (by decide) (by decide) (by decide) (by decide)
theorem ft_X5_leastSize_X2_fateOf : xFit Y_X5_leastSize Y_X2_fateOf (0, 0) := xFit.mk (by decide) (by decide) (by decide) (by decide)
theorem ft_X5_load_X4_firstError : xFit Y_X5_load Y_X4_firstError (0, 0) := xFit.mk (by decide) (by decide) (by decide) (by decide)
theorem ft_X5_load_X3_copyFrom : xFit Y_X5_load Y_X3_copyFrom (0, 0) := xFit.mk (by decide) (by decide) (by decide) (by decide)
theorem ft_X5_load_X5_runPart : xFit Y_X5_load Y_X5_runPart (0, 0) := xFit.mk (by decide) (by decide) (by decide) (by decide)
theorem ft_X5_load_X4_partLength : xFit Y_X5_load Y_X4_partLength (0, 0) := xFit.mk (by decide) (by decide) (by decide) (by decide)
theorem ft_X5_load_X0_dropCount : xFit Y_X5_load Y_X0_dropCount (0, 0) := xFit.mk (by decide) (by decide) (by decide) (by decide)
theorem ft_X5_longest_X5_isOutside : xFit Y_X5_longest Y_X5_isOutside (0, 0) := xFit.mk (by decide) (by decide) (by decide) (by decide)
theorem ft_X5_longest_X1_longestRunOf : xFit Y_X5_longest Y_X1_longestRunOf (0, 0) := xFit.mk (by decide) (by decide) (by decide) (by decide)
theorem ft_X5_pass_X5_isOutside : xFit Y_X5_pass Y_X5_isOutside (0, 0) := xFit.mk (by decide) (by decide) (by decide) (by decide)
theorem ft_X5_pass_X5_remember : xFit Y_X5_pass Y_X5_remember (0, 0) := xFit.mk (by decide) (by decide) (by decide) (by decide)
theorem ft_X5_pass_X2_letPass : xFit Y_X5_pass Y_X2_letPass (0, 0) := xFit.mk (by decide) (by decide) (by decide) (by decide)
theorem ft_X5_pass_X2_levelAt : xFit Y_X5_pass Y_X2_levelAt (0, 0) := xFit.mk (by decide) (by decide) (by decide) (by decide)
theorem ft_X5_pattern_X5_isOutside : xFit Y_X5_pattern Y_X5_isOutside (0, 0) := xFit.mk (by decide) (by decide) (by decide) (by decide)
theorem ft_X5_pattern_X5_areFates : xFit Y_X5_pattern Y_X5_areFates (0, 0) := xFit.mk (by decide) (by decide) (by decide) (by decide)
theorem ft_X5_pattern_X1_placesOf : xFit Y_X5_pattern Y_X1_placesOf (0, 0) := xFit.mk (by decide) (by decide) (by decide) (by decide)
theorem ft_X5_pulse_X5_isOutside : xFit Y_X5_pulse Y_X5_isOutside (0, 0) := xFit.mk (by decide) (by decide) (by decide) (by decide)
theorem ft_X5_quietIn_X5_isOutside : xFit Y_X5_quietIn Y_X5_isOutside (0, 0) := xFit.mk (by decide) (by decide) (by decide) (by decide)
theorem ft_X5_quietIn_X2_levelAt : xFit Y_X5_quietIn Y_X2_levelAt (0, 0) := xFit.mk (by decide) (by decide) (by decide) (by decide)
theorem ft_X5_rain_X5_isOutside : xFit Y_X5_rain Y_X5_isOutside (0, 0) := xFit.mk (by decide) (by decide) (by decide) (by decide)
theorem ft_X5_rain_X2_reckonedRain : xFit Y_X5_rain Y_X2_reckonedRain (0, 0) := xFit.mk (by decide) (by decide) (by decide) (by decide)
theorem ft_X5_remember_X3_copyFrom : xFit Y_X5_remember Y_X3_copyFrom (0, 0) := xFit.mk (by decide) (by decide) (by decide) (by decide)
theorem ft_X5_replay_X5_isSetting : xFit Y_X5_replay Y_X5_isSetting (0, 0) := xFit.mk (by decide) (by decide) (by decide) (by decide)
theorem ft_X5_replay_X5_isOutside : xFit Y_X5_replay Y_X5_isOutside (0, 0) := xFit.mk (by decide) (by decide) (by decide) (by decide)
theorem ft_X5_replay_X5_replayRecord : xFit Y_X5_replay Y_X5_replayRecord (0, 0) := xFit.mk (by decide) (by decide) (by decide) (by decide)
theorem ft_X5_replayRecord_X2_copyFrom : xFit Y_X5_replayRecord Y_X2_copyFrom (0, 0) := xFit.mk (by decide) (by decide) (by decide) (by decide)
theorem ft_X5_replayRecord_X2_copySetupFrom : xFit Y_X5_replayRecord Y_X2_copySetupFrom (0, 0) := xFit.mk (by decide) (by decide) (by decide) (by decide)
theorem ft_X5_replayRecord_X1_back : xFit Y_X5_replayRecord Y_X1_back (0, 0) := xFit.mk (by decide) (by decide) (by decide) (by decide)
theorem ft_X5_replayRecord_X2_receive : xFit Y_X5_replayRecord Y_X2_receive (0, 0) := xFit.mk (by decide) (by decide) (by decide) (by decide)
theorem ft_X5_restore_X5_isOutside : xFit Y_X5_restore Y_X5_isOutside (0, 0) := xFit.mk (by decide) (by decide) (by decide) (by decide)
theorem ft_X5_restore_X3_copyFrom : xFit Y_X5_restore Y_X3_copyFrom (0, 0) := xFit.mk (by decide) (by decide) (by decide) (by decide)
theorem ft_X5_runCommand_X5_scriptedFall : xFit Y_X5_runCommand Y_X5_scriptedFall (0, 0) := xFit.mk (by decide) (by decide) (by decide) (by decide)
theorem ft_X5_runCommand_X5_scriptedPass : xFit Y_X5_runCommand Y_X5_scriptedPass (0, 0) := xFit.mk (by decide) (by decide) (by decide) (by decide)
theorem ft_X5_runCommand_X5_scriptedSetting : xFit Y_X5_runCommand Y_X5_scriptedSetting (0, 0) := xFit.mk (by decide) (by decide) (by decide) (by decide)
theorem ft_X5_runCommand_X0_countOf : xFit Y_X5_runCommand Y_X0_countOf (0, 0) := xFit.mk (by decide) (by decide) (by decide) (by decide)
theorem ft_X5_runCommand_X2_levelAt : xFit Y_X5_runCommand Y_X2_levelAt (0, 0) := xFit.mk (by decide) (by decide) (by decide) (by decide)
theorem ft_X5_runCommand_X1_back : xFit Y_X5_runCommand Y_X1_back (0, 0) := xFit.mk (by decide) (by decide) (by decide) (by decide)
theorem ft_X5_runPart_X4_numberAt : xFit Y_X5_runPart Y_X4_numberAt (0, 0) := xFit.mk (by decide) (by decide) (by decide) (by decide)
theorem ft_X5_runPart_X4_signAt : xFit Y_X5_runPart Y_X4_signAt (0, 0) := xFit.mk (by decide) (by decide) (by decide) (by decide)
theorem ft_X5_runPart_X3_letFall : xFit Y_X5_runPart Y_X3_letFall (0, 0) := xFit.mk (by decide) (by decide) (by decide) (by decide)
theorem ft_X5_runPart_X2_letPass : xFit Y_X5_runPart Y_X2_letPass (0, 0) := xFit.mk (by decide) (by decide) (by decide) (by decide)
theorem ft_X5_runPart_X4_digitAt : xFit Y_X5_runPart Y_X4_digitAt (0, 0) := xFit.mk (by decide) (by decide) (by decide) (by decide)
theorem ft_X5_runScript_X5_isOutside : xFit Y_X5_runScript Y_X5_isOutside (0, 0) := xFit.mk (by decide) (by decide) (by decide) (by decide)
theorem ft_X5_runScript_X5_withoutLastGroups : xFit Y_X5_runScript Y_X5_withoutLastGroups (0, 0) := xFit.mk (by decide) (by decide) (by decide) (by decide)
theorem ft_X5_runScript_X3_copyFrom : xFit Y_X5_runScript Y_X3_copyFrom (0, 0) := xFit.mk (by decide) (by decide) (by decide) (by decide)
theorem ft_X5_runScript_X5_runCommand : xFit Y_X5_runScript Y_X5_runCommand (0, 0) := xFit.mk (by decide) (by decide) (by decide) (by decide)
theorem ft_X5_save_X5_isOutside : xFit Y_X5_save Y_X5_isOutside (0, 0) := xFit.mk (by decide) (by decide) (by decide) (by decide)
theorem ft_X5_save_X3_copyFrom : xFit Y_X5_save Y_X3_copyFrom (0, 0) := xFit.mk (by decide) (by decide) (by decide) (by decide)
theorem ft_X5_scriptedFall_X5_isFall : xFit Y_X5_scriptedFall Y_X5_isFall (0, 0) := xFit.mk (by decide) (by decide) (by decide) (by decide)
theorem ft_X5_scriptedFall_X3_letFall : xFit Y_X5_scriptedFall Y_X3_letFall (0, 0) := xFit.mk (by decide) (by decide) (by decide) (by decide)
theorem ft_X5_scriptedPass_X5_isOutside : xFit Y_X5_scriptedPass Y_X5_isOutside (0, 0) := xFit.mk (by decide) (by decide) (by decide) (by decide)
theorem ft_X5_scriptedPass_X2_letPass : xFit Y_X5_scriptedPass Y_X2_letPass (0, 0) := xFit.mk (by decide) (by decide) (by decide) (by decide)
theorem ft_X5_scriptedSetting_X5_isSetting : xFit Y_X5_scriptedSetting Y_X5_isSetting (0, 0) := xFit.mk (by decide) (by decide) (by decide) (by decide)
theorem ft_X5_set_X5_isSetting : xFit Y_X5_set Y_X5_isSetting (0, 0) := xFit.mk (by decide) (by decide) (by decide) (by decide)
theorem ft_X5_set_X5_remember : xFit Y_X5_set Y_X5_remember (0, 0) := xFit.mk (by decide) (by decide) (by decide) (by decide)
theorem ft_X5_setBorder_X5_isOutside : xFit Y_X5_setBorder Y_X5_isOutside (0, 0) := xFit.mk (by decide) (by decide) (by decide) (by decide)
theorem ft_X5_setBorder_X2_wouldAscend : xFit Y_X5_setBorder Y_X2_wouldAscend (0, 0) := xFit.mk (by decide) (by decide) (by decide) (by decide)
theorem ft_X5_setBorder_X5_remember : xFit Y_X5_setBorder Y_X5_remember (0, 0) := xFit.mk (by decide) (by decide) (by decide) (by decide)
theorem ft_X5_setting_X5_isOutside : xFit Y_X5_setting Y_X5_isOutside (0, 0) := xFit.mk (by decide) (by decide) (by decide) (by decide)
theorem ft_X5_simulate_X5_isOutside : xFit Y_X5_simulate Y_X5_isOutside (0, 0) := xFit.mk (by decide) (by decide) (by decide) (by decide)
theorem ft_X5_simulate_X3_copyFrom : xFit Y_X5_simulate Y_X3_copyFrom (0, 0) := xFit.mk (by decide) (by decide) (by decide) (by decide)
theorem ft_X5_simulate_X3_letFall : xFit Y_X5_simulate Y_X3_letFall (0, 0) := xFit.mk (by decide) (by decide) (by decide) (by decide)
theorem ft_X5_simulate_X5_weightOf : xFit Y_X5_simulate Y_X5_weightOf (0, 0) := xFit.mk (by decide) (by decide) (by decide) (by decide)
theorem ft_X5_undo_X3_copyFrom : xFit Y_X5_undo Y_X3_copyFrom (0, 0) := xFit.mk (by decide) (by decide) (by decide) (by decide)
theorem ft_X5_wouldBe_X5_isFall : xFit Y_X5_wouldBe Y_X5_isFall (0, 0) := xFit.mk (by decide) (by decide) (by decide) (by decide)
theorem ft_X5_wouldBe_X2_strengthOf : xFit Y_X5_wouldBe Y_X2_strengthOf (0, 0) := xFit.mk (by decide) (by decide) (by decide) (by decide)
theorem ft_X5_wouldBe_X2_fateOf : xFit Y_X5_wouldBe Y_X2_fateOf (0, 0) := xFit.mk (by decide) (by decide) (by decide) (by decide)
theorem cc_L_in : xCS Y_L_in 3 := ⟨ok_L_in, mt_L_in⟩
theorem cc_L_now : xCS Y_L_now 1 := ⟨ok_L_now, mt_L_now⟩
theorem cc_L_types : xCS Y_L_types 2 := ⟨ok_L_types, mt_L_types⟩
theorem cc_X0_copyFrom : xCV Y_X0_copyFrom 0 1 := ⟨ok_X0_copyFrom, mm_X0_copyFrom, mv_X0_copyFrom, _, rfl, rfl⟩
theorem cc_X0_countOf : xCV Y_X0_countOf 0 1 := ⟨ok_X0_countOf, mm_X0_countOf, mv_X0_countOf, _, rfl, rfl⟩
theorem cc_X0_dropCount : xCV Y_X0_dropCount 0 0 := ⟨ok_X0_dropCount, mm_X0_dropCount, mv_X0_dropCount, _, rfl, rfl⟩
theorem cc_X0_enter : xCV Y_X0_enter 0 3 := ⟨ok_X0_enter, mm_X0_enter, mv_X0_enter, _, rfl, rfl⟩
theorem cc_X0_init : xCI Y_X0_init 0 := ⟨ok_X0_init, mm_X0_init, rfl, rfl⟩
theorem cc_X0_rainOfRecord : xCV Y_X0_rainOfRecord 0 0 := ⟨ok_X0_rainOfRecord, mm_X0_rainOfRecord, mv_X0_rainOfRecord, _, rfl, rfl⟩
theorem cc_X1_back : xCV Y_X1_back 1 1 := ⟨ok_X1_back, mm_X1_back, mv_X1_back, _, rfl, rfl⟩
theorem cc_X1_copyFrom : xCV Y_X1_copyFrom 1 1 := ⟨ok_X1_copyFrom, mm_X1_copyFrom, mv_X1_copyFrom, _, rfl, rfl⟩
theorem cc_X1_init : xCI Y_X1_init 1 := ⟨ok_X1_init, mm_X1_init, rfl, rfl⟩
theorem cc_X1_longestRunOf : xCV Y_X1_longestRunOf 1 1 := ⟨ok_X1_longestRunOf, mm_X1_longestRunOf, mv_X1_longestRunOf, _, rfl, rfl⟩
theorem cc_X1_placesOf : xCV Y_X1_placesOf 1 2 := ⟨ok_X1_placesOf, mm_X1_placesOf, mv_X1_placesOf, _, rfl, rfl⟩
theorem cc_X1_push : xCV Y_X1_push 1 1 := ⟨ok_X1_push, mm_X1_push, mv_X1_push, _, rfl, rfl⟩
theorem cc_X1_standsAt : xCV Y_X1_standsAt 1 3 := ⟨ok_X1_standsAt, mm_X1_standsAt, mv_X1_standsAt, _, rfl, rfl⟩
theorem cc_X2_binOf : xCV Y_X2_binOf 2 1 := ⟨ok_X2_binOf, mm_X2_binOf, mv_X2_binOf, _, rfl, rfl⟩
theorem cc_X2_closePulse : xCV Y_X2_closePulse 2 0 := ⟨ok_X2_closePulse, mm_X2_closePulse, mv_X2_closePulse, _, rfl, rfl⟩
theorem cc_X2_copyFrom : xCV Y_X2_copyFrom 2 1 := ⟨ok_X2_copyFrom, mm_X2_copyFrom, mv_X2_copyFrom, _, rfl, rfl⟩
theorem cc_X2_copySetupFrom : xCV Y_X2_copySetupFrom 2 1 := ⟨ok_X2_copySetupFrom, mm_X2_copySetupFrom, mv_X2_copySetupFrom, _, rfl, rfl⟩
theorem cc_X2_emptyBins : xCV Y_X2_emptyBins 2 0 := ⟨ok_X2_emptyBins, mm_X2_emptyBins, mv_X2_emptyBins, _, rfl, rfl⟩
theorem cc_X2_endByLaw : xCV Y_X2_endByLaw 2 2 := ⟨ok_X2_endByLaw, mm_X2_endByLaw, mv_X2_endByLaw, _, rfl, rfl⟩
theorem cc_X2_fateOf : xCV Y_X2_fateOf 2 2 := ⟨ok_X2_fateOf, mm_X2_fateOf, mv_X2_fateOf, _, rfl, rfl⟩
theorem cc_X2_init : xCI Y_X2_init 0 := ⟨ok_X2_init, mm_X2_init, rfl, rfl⟩
theorem cc_X2_letPass : xCV Y_X2_letPass 2 1 := ⟨ok_X2_letPass, mm_X2_letPass, mv_X2_letPass, _, rfl, rfl⟩
theorem cc_X2_levelAt : xCV Y_X2_levelAt 2 1 := ⟨ok_X2_levelAt, mm_X2_levelAt, mv_X2_levelAt, _, rfl, rfl⟩
theorem cc_X2_lowerEnd : xCV Y_X2_lowerEnd 2 1 := ⟨ok_X2_lowerEnd, mm_X2_lowerEnd, mv_X2_lowerEnd, _, rfl, rfl⟩
theorem cc_X2_openPulse : xCV Y_X2_openPulse 2 1 := ⟨ok_X2_openPulse, mm_X2_openPulse, mv_X2_openPulse, _, rfl, rfl⟩
theorem cc_X2_receive : xCV Y_X2_receive 2 2 := ⟨ok_X2_receive, mm_X2_receive, mv_X2_receive, _, rfl, rfl⟩
theorem cc_X2_reckonedRain : xCV Y_X2_reckonedRain 2 1 := ⟨ok_X2_reckonedRain, mm_X2_reckonedRain, mv_X2_reckonedRain, _, rfl, rfl⟩
theorem cc_X2_strengthOf : xCV Y_X2_strengthOf 2 1 := ⟨ok_X2_strengthOf, mm_X2_strengthOf, mv_X2_strengthOf, _, rfl, rfl⟩
theorem cc_X2_strike : xCV Y_X2_strike 2 1 := ⟨ok_X2_strike, mm_X2_strike, mv_X2_strike, _, rfl, rfl⟩
theorem cc_X2_upperEnd : xCV Y_X2_upperEnd 2 1 := ⟨ok_X2_upperEnd, mm_X2_upperEnd, mv_X2_upperEnd, _, rfl, rfl⟩
theorem cc_X2_wouldAscend : xCV Y_X2_wouldAscend 2 2 := ⟨ok_X2_wouldAscend, mm_X2_wouldAscend, mv_X2_wouldAscend, _, rfl, rfl⟩
theorem cc_X3_copyFrom : xCV Y_X3_copyFrom 3 1 := ⟨ok_X3_copyFrom, mm_X3_copyFrom, mv_X3_copyFrom, _, rfl, rfl⟩
theorem cc_X3_init : xCI Y_X3_init 0 := ⟨ok_X3_init, mm_X3_init, rfl, rfl⟩
theorem cc_X3_letFall : xCV Y_X3_letFall 3 2 := ⟨ok_X3_letFall, mm_X3_letFall, mv_X3_letFall, _, rfl, rfl⟩
theorem cc_X4_add : xCV Y_X4_add 4 1 := ⟨ok_X4_add, mm_X4_add, mv_X4_add, _, rfl, rfl⟩
theorem cc_X4_digitAt : xCV Y_X4_digitAt 4 1 := ⟨ok_X4_digitAt, mm_X4_digitAt, mv_X4_digitAt, _, rfl, rfl⟩
theorem cc_X4_errorInDrop : xCV Y_X4_errorInDrop 4 1 := ⟨ok_X4_errorInDrop, mm_X4_errorInDrop, mv_X4_errorInDrop, _, rfl, rfl⟩
theorem cc_X4_errorInNumber : xCV Y_X4_errorInNumber 4 4 := ⟨ok_X4_errorInNumber, mm_X4_errorInNumber, mv_X4_errorInNumber, _, rfl, rfl⟩
theorem cc_X4_errorInPart : xCV Y_X4_errorInPart 4 1 := ⟨ok_X4_errorInPart, mm_X4_errorInPart, mv_X4_errorInPart, _, rfl, rfl⟩
theorem cc_X4_errorInSetting : xCV Y_X4_errorInSetting 4 3 := ⟨ok_X4_errorInSetting, mm_X4_errorInSetting, mv_X4_errorInSetting, _, rfl, rfl⟩
theorem cc_X4_firstError : xCV Y_X4_firstError 4 0 := ⟨ok_X4_firstError, mm_X4_firstError, mv_X4_firstError, _, rfl, rfl⟩
theorem cc_X4_init : xCI Y_X4_init 0 := ⟨ok_X4_init, mm_X4_init, rfl, rfl⟩
theorem cc_X4_isFull : xCV Y_X4_isFull 4 0 := ⟨ok_X4_isFull, mm_X4_isFull, mv_X4_isFull, _, rfl, rfl⟩
theorem cc_X4_numberAt : xCV Y_X4_numberAt 4 1 := ⟨ok_X4_numberAt, mm_X4_numberAt, mv_X4_numberAt, _, rfl, rfl⟩
theorem cc_X4_partLength : xCV Y_X4_partLength 4 1 := ⟨ok_X4_partLength, mm_X4_partLength, mv_X4_partLength, _, rfl, rfl⟩
theorem cc_X4_signAt : xCV Y_X4_signAt 4 1 := ⟨ok_X4_signAt, mm_X4_signAt, mv_X4_signAt, _, rfl, rfl⟩
theorem cc_X4_wipe : xCV Y_X4_wipe 4 0 := ⟨ok_X4_wipe, mm_X4_wipe, mv_X4_wipe, _, rfl, rfl⟩
theorem cc_X5_about : xCV Y_X5_about 5 1 := ⟨ok_X5_about, mm_X5_about, mv_X5_about, _, rfl, rfl⟩
theorem cc_X5_append : xCV Y_X5_append 5 1 := ⟨ok_X5_append, mm_X5_append, mv_X5_append, _, rfl, rfl⟩
theorem cc_X5_areFates : xCS Y_X5_areFates 2 := ⟨ok_X5_areFates, mt_X5_areFates⟩
theorem cc_X5_bestWindow : xCV Y_X5_bestWindow 5 1 := ⟨ok_X5_bestWindow, mm_X5_bestWindow, mv_X5_bestWindow, _, rfl, rfl⟩
theorem cc_X5_bin : xCV Y_X5_bin 5 2 := ⟨ok_X5_bin, mm_X5_bin, mv_X5_bin, _, rfl, rfl⟩
theorem cc_X5_clearRow : xCS Y_X5_clearRow 1 := ⟨ok_X5_clearRow, mt_X5_clearRow⟩
theorem cc_X5_clearText : xCV Y_X5_clearText 5 0 := ⟨ok_X5_clearText, mm_X5_clearText, mv_X5_clearText, _, rfl, rfl⟩
theorem cc_X5_copyRow : xCS Y_X5_copyRow 2 := ⟨ok_X5_copyRow, mt_X5_copyRow⟩
theorem cc_X5_cube : xCS Y_X5_cube 1 := ⟨ok_X5_cube, mt_X5_cube⟩
theorem cc_X5_drop : xCV Y_X5_drop 5 2 := ⟨ok_X5_drop, mm_X5_drop, mv_X5_drop, _, rfl, rfl⟩
theorem cc_X5_empty : xCV Y_X5_empty 5 0 := ⟨ok_X5_empty, mm_X5_empty, mv_X5_empty, _, rfl, rfl⟩
theorem cc_X5_errorPosition : xCV Y_X5_errorPosition 5 0 := ⟨ok_X5_errorPosition, mm_X5_errorPosition, mv_X5_errorPosition, _, rfl, rfl⟩
theorem cc_X5_fate : xCV Y_X5_fate 5 1 := ⟨ok_X5_fate, mm_X5_fate, mv_X5_fate, _, rfl, rfl⟩
theorem cc_X5_isFall : xCS Y_X5_isFall 2 := ⟨ok_X5_isFall, mt_X5_isFall⟩
theorem cc_X5_isOutside : xCS Y_X5_isOutside 3 := ⟨ok_X5_isOutside, mt_X5_isOutside⟩
theorem cc_X5_isSetting : xCS Y_X5_isSetting 2 := ⟨ok_X5_isSetting, mt_X5_isSetting⟩
theorem cc_X5_leastSize : xCV Y_X5_leastSize 5 1 := ⟨ok_X5_leastSize, mm_X5_leastSize, mv_X5_leastSize, _, rfl, rfl⟩
theorem cc_X5_load : xCV Y_X5_load 5 0 := ⟨ok_X5_load, mm_X5_load, mv_X5_load, _, rfl, rfl⟩
theorem cc_X5_longest : xCV Y_X5_longest 5 1 := ⟨ok_X5_longest, mm_X5_longest, mv_X5_longest, _, rfl, rfl⟩
theorem cc_X5_pass : xCV Y_X5_pass 5 1 := ⟨ok_X5_pass, mm_X5_pass, mv_X5_pass, _, rfl, rfl⟩
theorem cc_X5_pattern : xCV Y_X5_pattern 5 2 := ⟨ok_X5_pattern, mm_X5_pattern, mv_X5_pattern, _, rfl, rfl⟩
theorem cc_X5_pulse : xCV Y_X5_pulse 5 1 := ⟨ok_X5_pulse, mm_X5_pulse, mv_X5_pulse, _, rfl, rfl⟩
theorem cc_X5_quietIn : xCV Y_X5_quietIn 5 1 := ⟨ok_X5_quietIn, mm_X5_quietIn, mv_X5_quietIn, _, rfl, rfl⟩
theorem cc_X5_rain : xCV Y_X5_rain 5 1 := ⟨ok_X5_rain, mm_X5_rain, mv_X5_rain, _, rfl, rfl⟩
theorem cc_X5_remember : xCV Y_X5_remember 5 0 := ⟨ok_X5_remember, mm_X5_remember, mv_X5_remember, _, rfl, rfl⟩
theorem cc_X5_replay : xCV Y_X5_replay 5 3 := ⟨ok_X5_replay, mm_X5_replay, mv_X5_replay, _, rfl, rfl⟩
theorem cc_X5_replayRecord : xCV Y_X5_replayRecord 5 3 := ⟨ok_X5_replayRecord, mm_X5_replayRecord, mv_X5_replayRecord, _, rfl, rfl⟩
theorem cc_X5_restore : xCV Y_X5_restore 5 1 := ⟨ok_X5_restore, mm_X5_restore, mv_X5_restore, _, rfl, rfl⟩
theorem cc_X5_runCommand : xCV Y_X5_runCommand 5 1 := ⟨ok_X5_runCommand, mm_X5_runCommand, mv_X5_runCommand, _, rfl, rfl⟩
theorem cc_X5_runPart : xCV Y_X5_runPart 5 1 := ⟨ok_X5_runPart, mm_X5_runPart, mv_X5_runPart, _, rfl, rfl⟩
theorem cc_X5_runScript : xCV Y_X5_runScript 5 2 := ⟨ok_X5_runScript, mm_X5_runScript, mv_X5_runScript, _, rfl, rfl⟩
theorem cc_X5_save : xCV Y_X5_save 5 1 := ⟨ok_X5_save, mm_X5_save, mv_X5_save, _, rfl, rfl⟩
theorem cc_X5_scriptedFall : xCV Y_X5_scriptedFall 5 2 := ⟨ok_X5_scriptedFall, mm_X5_scriptedFall, mv_X5_scriptedFall, _, rfl, rfl⟩
theorem cc_X5_scriptedPass : xCV Y_X5_scriptedPass 5 1 := ⟨ok_X5_scriptedPass, mm_X5_scriptedPass, mv_X5_scriptedPass, _, rfl, rfl⟩
theorem cc_X5_scriptedSetting : xCV Y_X5_scriptedSetting 5 2 := ⟨ok_X5_scriptedSetting, mm_X5_scriptedSetting, mv_X5_scriptedSetting, _, rfl, rfl⟩
theorem cc_X5_set : xCV Y_X5_set 5 2 := ⟨ok_X5_set, mm_X5_set, mv_X5_set, _, rfl, rfl⟩
theorem cc_X5_setBorder : xCV Y_X5_setBorder 5 2 := ⟨ok_X5_setBorder, mm_X5_setBorder, mv_X5_setBorder, _, rfl, rfl⟩
theorem cc_X5_setting : xCV Y_X5_setting 5 1 := ⟨ok_X5_setting, mm_X5_setting, mv_X5_setting, _, rfl, rfl⟩
theorem cc_X5_simulate : xCV Y_X5_simulate 5 2 := ⟨ok_X5_simulate, mm_X5_simulate, mv_X5_simulate, _, rfl, rfl⟩
theorem cc_X5_sumOf : xCS Y_X5_sumOf 1 := ⟨ok_X5_sumOf, mt_X5_sumOf⟩
theorem cc_X5_trueRain : xCV Y_X5_trueRain 5 0 := ⟨ok_X5_trueRain, mm_X5_trueRain, mv_X5_trueRain, _, rfl, rfl⟩
theorem cc_X5_undo : xCV Y_X5_undo 5 0 := ⟨ok_X5_undo, mm_X5_undo, mv_X5_undo, _, rfl, rfl⟩
theorem cc_X5_weightOf : xCS Y_X5_weightOf 1 := ⟨ok_X5_weightOf, mt_X5_weightOf⟩
theorem cc_X5_wholeRoot : xCS Y_X5_wholeRoot 1 := ⟨ok_X5_wholeRoot, mt_X5_wholeRoot⟩
theorem cc_X5_withoutLastGroups : xCS Y_X5_withoutLastGroups 2 := ⟨ok_X5_withoutLastGroups, mt_X5_withoutLastGroups⟩
theorem cc_X5_wouldBe : xCV Y_X5_wouldBe 5 2 := ⟨ok_X5_wouldBe, mm_X5_wouldBe, mv_X5_wouldBe, _, rfl, rfl⟩
set_option maxRecDepth 100000 in
theorem ta1_ioobe : ∀ w ∈ vx_atS RX5 159 "java/lang/IndexOutOfBoundsException" ["java/lang/RuntimeException", "java/lang/Exception"], w ∈ lw_tbl := by decide +kernel
theorem ta2_ioobe : (vx_atS RX5 159 "java/lang/IndexOutOfBoundsException" ["java/lang/RuntimeException", "java/lang/Exception"]).all xok = true := by decide +kernel
set_option maxRecDepth 100000 in
theorem ta1_ise : ∀ w ∈ vx_atS RX5 72 "java/lang/IllegalStateException" ["java/lang/RuntimeException", "java/lang/Exception"], w ∈ lw_tbl := by decide +kernel
theorem ta2_ise : (vx_atS RX5 72 "java/lang/IllegalStateException" ["java/lang/RuntimeException", "java/lang/Exception"]).all xok = true := by decide +kernel
set_option maxRecDepth 100000 in
theorem ta1_iae : ∀ w ∈ vx_atS RX5 61 "java/lang/IllegalArgumentException" ["java/lang/RuntimeException", "java/lang/Exception"], w ∈ lw_tbl := by decide +kernel
theorem ta2_iae : (vx_atS RX5 61 "java/lang/IllegalArgumentException" ["java/lang/RuntimeException", "java/lang/Exception"]).all xok = true := by decide +kernel
set_option maxRecDepth 100000 in
theorem ta_iae : ∀ w ∈ vx_atS RX5 61 "java/lang/IllegalArgumentException" ["java/lang/RuntimeException", "java/lang/Exception"], w ∈ xTT := fun w hw => xTT_of (ta1_iae w hw) (List.all_eq_true.mp ta2_iae w hw)
set_option maxRecDepth 100000 in
theorem tg_iae : ∀ w ∈ Cond.classLink RX5 57 "java/lang/IllegalArgumentException" :: Cond.initialized "java/lang/IllegalArgumentException" :: vx_atS RX5 61 "java/lang/IllegalArgumentException" ["java/lang/RuntimeException", "java/lang/Exception"], vx_ot w = true := by decide +kernel
theorem th_X5_148 : xThr RX5 57 148 61 "java/lang/IllegalArgumentException" "what is 0 to 11" ["java/lang/RuntimeException", "java/lang/Exception"] := ⟨by decide +kernel, by decide +kernel, by decide, mq_X5_57, mi_iae, by decide +kernel, ta_iae, tg_iae⟩
theorem th_X5_59 : xThr RX5 57 59 61 "java/lang/IllegalArgumentException" "a character code is 0 to 255" ["java/lang/RuntimeException", "java/lang/Exception"] := ⟨by decide +kernel, by decide +kernel, by decide, mq_X5_57, mi_iae, by decide +kernel, ta_iae, tg_iae⟩
set_option maxRecDepth 100000 in
theorem ta_ise : ∀ w ∈ vx_atS RX5 72 "java/lang/IllegalStateException" ["java/lang/RuntimeException", "java/lang/Exception"], w ∈ xTT := fun w hw => xTT_of (ta1_ise w hw) (List.all_eq_true.mp ta2_ise w hw)
set_option maxRecDepth 100000 in
theorem tg_ise : ∀ w ∈ Cond.classLink RX5 68 "java/lang/IllegalStateException" :: Cond.initialized "java/lang/IllegalStateException" :: vx_atS RX5 72 "java/lang/IllegalStateException" ["java/lang/RuntimeException", "java/lang/Exception"], vx_ot w = true := by decide +kernel
theorem th_X5_70 : xThr RX5 68 70 72 "java/lang/IllegalStateException" "the text already has 100 characters" ["java/lang/RuntimeException", "java/lang/Exception"] := ⟨by decide +kernel, by decide +kernel, by decide, mq_X5_68, mi_ise, by decide +kernel, ta_ise, tg_ise⟩
theorem th_X5_207 : xThr RX5 57 207 61 "java/lang/IllegalArgumentException" "a law is 0 to 2" ["java/lang/RuntimeException", "java/lang/Exception"] := ⟨by decide +kernel, by decide +kernel, by decide, mq_X5_57, mi_iae, by decide +kernel, ta_iae, tg_iae⟩
set_option maxRecDepth 100000 in
theorem ta_ioobe : ∀ w ∈ vx_atS RX5 159 "java/lang/IndexOutOfBoundsException" ["java/lang/RuntimeException", "java/lang/Exception"], w ∈ xTT := fun w hw => xTT_of (ta1_ioobe w hw) (List.all_eq_true.mp ta2_ioobe w hw)
set_option maxRecDepth 100000 in
theorem tg_ioobe : ∀ w ∈ Cond.classLink RX5 155 "java/lang/IndexOutOfBoundsException" :: Cond.initialized "java/lang/IndexOutOfBoundsException" :: vx_atS RX5 159 "java/lang/IndexOutOfBoundsException" ["java/lang/RuntimeException", "java/lang/Exception"], vx_ot w = true := by decide +kernel
theorem th_X5_157 : xThr RX5 155 157 159 "java/lang/IndexOutOfBoundsException" "a bin is 0 to 7" ["java/lang/RuntimeException", "java/lang/Exception"] := ⟨by decide +kernel, by decide +kernel, by decide, mq_X5_155, mi_ioobe, by decide +kernel, ta_ioobe, tg_ioobe⟩
theorem th_X5_169 : xThr RX5 57 169 61 "java/lang/IllegalArgumentException" "what is 0 to 4" ["java/lang/RuntimeException", "java/lang/Exception"] := ⟨by decide +kernel, by decide +kernel, by decide, mq_X5_57, mi_iae, by decide +kernel, ta_iae, tg_iae⟩
theorem th_X5_220 : xThr RX5 57 220 61 "java/lang/IllegalArgumentException" "ticks are 0 to 99, a size is 1 to 60" ["java/lang/RuntimeException", "java/lang/Exception"] := ⟨by decide +kernel, by decide +kernel, by decide, mq_X5_57, mi_iae, by decide +kernel, ta_iae, tg_iae⟩
theorem th_X5_185 : xThr RX5 57 185 61 "java/lang/IllegalArgumentException" "i is not negative" ["java/lang/RuntimeException", "java/lang/Exception"] := ⟨by decide +kernel, by decide +kernel, by decide, mq_X5_57, mi_iae, by decide +kernel, ta_iae, tg_iae⟩
theorem th_X5_261 : xThr RX5 57 261 61 "java/lang/IllegalArgumentException" "ticks are 0 to 99" ["java/lang/RuntimeException", "java/lang/Exception"] := ⟨by decide +kernel, by decide +kernel, by decide, mq_X5_57, mi_iae, by decide +kernel, ta_iae, tg_iae⟩
theorem th_X5_84 : xThr RX5 68 84 72 "java/lang/IllegalStateException" "the text is not a storm" ["java/lang/RuntimeException", "java/lang/Exception"] := ⟨by decide +kernel, by decide +kernel, by decide, mq_X5_68, mi_ise, by decide +kernel, ta_ise, tg_ise⟩
theorem th_X5_190 : xThr RX5 57 190 61 "java/lang/IllegalArgumentException" "a fate is 0 to 3" ["java/lang/RuntimeException", "java/lang/Exception"] := ⟨by decide +kernel, by decide +kernel, by decide, mq_X5_57, mi_iae, by decide +kernel, ta_iae, tg_iae⟩
theorem th_X5_228 : xThr RX5 57 228 61 "java/lang/IllegalArgumentException" "ticks are 1 to 99" ["java/lang/RuntimeException", "java/lang/Exception"] := ⟨by decide +kernel, by decide +kernel, by decide, mq_X5_57, mi_iae, by decide +kernel, ta_iae, tg_iae⟩
theorem th_X5_195 : xThr RX5 57 195 61 "java/lang/IllegalArgumentException" "a pattern has 1 to 8 fates" ["java/lang/RuntimeException", "java/lang/Exception"] := ⟨by decide +kernel, by decide +kernel, by decide, mq_X5_57, mi_iae, by decide +kernel, ta_iae, tg_iae⟩
theorem th_X5_201 : xThr RX5 57 201 61 "java/lang/IllegalArgumentException" "fates are at most n digits from 0 to 3" ["java/lang/RuntimeException", "java/lang/Exception"] := ⟨by decide +kernel, by decide +kernel, by decide, mq_X5_57, mi_iae, by decide +kernel, ta_iae, tg_iae⟩
theorem th_X5_171 : xThr RX5 57 171 61 "java/lang/IllegalArgumentException" "what is 0 to 3" ["java/lang/RuntimeException", "java/lang/Exception"] := ⟨by decide +kernel, by decide +kernel, by decide, mq_X5_57, mi_iae, by decide +kernel, ta_iae, tg_iae⟩
theorem th_X5_263 : xThr RX5 57 263 61 "java/lang/IllegalArgumentException" "a level is 0 to 5000" ["java/lang/RuntimeException", "java/lang/Exception"] := ⟨by decide +kernel, by decide +kernel, by decide, mq_X5_57, mi_iae, by decide +kernel, ta_iae, tg_iae⟩
theorem th_X5_265 : xThr RX5 57 265 61 "java/lang/IllegalArgumentException" "a window is 0 to 20, a damping 1 to 9, what 0 to 3" ["java/lang/RuntimeException", "java/lang/Exception"] := ⟨by decide +kernel, by decide +kernel, by decide, mq_X5_57, mi_iae, by decide +kernel, ta_iae, tg_iae⟩
theorem th_X5_313 : xThr RX5 155 313 159 "java/lang/IndexOutOfBoundsException" "a save slot is 0 or 1" ["java/lang/RuntimeException", "java/lang/Exception"] := ⟨by decide +kernel, by decide +kernel, by decide, mq_X5_155, mi_ioobe, by decide +kernel, ta_ioobe, tg_ioobe⟩
theorem th_X5_315 : xThr RX5 68 315 72 "java/lang/IllegalStateException" "nothing has been saved in this slot" ["java/lang/RuntimeException", "java/lang/Exception"] := ⟨by decide +kernel, by decide +kernel, by decide, mq_X5_68, mi_ise, by decide +kernel, ta_ise, tg_ise⟩
theorem th_X5_290 : xThr RX5 57 290 61 "java/lang/IllegalArgumentException" "a script has 1 to 3 commands" ["java/lang/RuntimeException", "java/lang/Exception"] := ⟨by decide +kernel, by decide +kernel, by decide, mq_X5_57, mi_iae, by decide +kernel, ta_iae, tg_iae⟩
theorem th_X5_296 : xThr RX5 57 296 61 "java/lang/IllegalArgumentException" "a script has at most five digits a command" ["java/lang/RuntimeException", "java/lang/Exception"] := ⟨by decide +kernel, by decide +kernel, by decide, mq_X5_57, mi_iae, by decide +kernel, ta_iae, tg_iae⟩
theorem th_X5_236 : xThr RX5 57 236 61 "java/lang/IllegalArgumentException" "there is no such setting, or v is out of its range" ["java/lang/RuntimeException", "java/lang/Exception"] := ⟨by decide +kernel, by decide +kernel, by decide, mq_X5_57, mi_iae, by decide +kernel, ta_iae, tg_iae⟩
theorem th_X5_238 : xThr RX5 155 238 159 "java/lang/IndexOutOfBoundsException" "a border is 1 to 7" ["java/lang/RuntimeException", "java/lang/Exception"] := ⟨by decide +kernel, by decide +kernel, by decide, mq_X5_155, mi_ioobe, by decide +kernel, ta_ioobe, tg_ioobe⟩
theorem th_X5_240 : xThr RX5 57 240 61 "java/lang/IllegalArgumentException" "a border lies at 1 to 5000" ["java/lang/RuntimeException", "java/lang/Exception"] := ⟨by decide +kernel, by decide +kernel, by decide, mq_X5_57, mi_iae, by decide +kernel, ta_iae, tg_iae⟩
theorem th_X5_245 : xThr RX5 68 245 72 "java/lang/IllegalStateException" "each border is greater than the one before" ["java/lang/RuntimeException", "java/lang/Exception"] := ⟨by decide +kernel, by decide +kernel, by decide, mq_X5_68, mi_ise, by decide +kernel, ta_ise, tg_ise⟩
theorem th_X5_150 : xThr RX5 57 150 61 "java/lang/IllegalArgumentException" "a setting is 0 to 4" ["java/lang/RuntimeException", "java/lang/Exception"] := ⟨by decide +kernel, by decide +kernel, by decide, mq_X5_57, mi_iae, by decide +kernel, ta_iae, tg_iae⟩
theorem th_X5_304 : xThr RX5 57 304 61 "java/lang/IllegalArgumentException" "rounds are 1 to 99" ["java/lang/RuntimeException", "java/lang/Exception"] := ⟨by decide +kernel, by decide +kernel, by decide, mq_X5_57, mi_iae, by decide +kernel, ta_iae, tg_iae⟩
theorem th_X5_253 : xThr RX5 68 253 72 "java/lang/IllegalStateException" "no state is remembered" ["java/lang/RuntimeException", "java/lang/Exception"] := ⟨by decide +kernel, by decide +kernel, by decide, mq_X5_68, mi_ise, by decide +kernel, ta_ise, tg_ise⟩

/-! ===== the V layer: the machine's heap as functions of abstract cell numbers; one rule an instruction; contracts of methods in these words ===== -/
abbrev xMem : Type := Nat → Nat → Int32
abbrev xLng : Type := Nat → Nat → Int64
abbrev xRef : Type := Nat → Nat → Option Nat
abbrev xKnd : Type := Nat → Nat × Nat
abbrev xS : Type := Bool × Nat × xKnd × xRef × xMem × xLng
abbrev xEnv : Type := va_G × (Nat → ClassId) × (Nat × Nat × Nat × Nat) × (Nat × (Nat → Int32))
abbrev xY : Type := MethodName × ByteArray × Nat × Option FieldType × Room × List (Nat × Nat × Nat × Nat)
def xB (E : xEnv) : Nat := E.2.2.1.1
/-- abstract numbers 0, 1, 2: the two static tables and the script; from 3 on: what was made since the law began, in order -/
def xAd (E : xEnv) (k : Nat) : Nat := if 3 ≤ k then xB E + (k - 3) else if k = 0 then E.2.2.1.2.1 else if k = 1 then E.2.2.1.2.2.1 else E.2.2.1.2.2.2
def xv (E : xEnv) : Value → Value
  | .ref k => .ref (xAd E k)
  | v => v
def xA (E : xEnv) : Nat → Prop := fun q => xB E ≤ q
theorem xv_cat (E : xEnv) (v : Value) : (xv E v).category = v.category := by cases v <;> rfl
theorem xAd_inj {E : xEnv} {a b : Nat} (ha : 3 ≤ a) (hb : 3 ≤ b) (h : xAd E a = xAd E b) : a = b := by
  unfold xAd at h; rw [if_pos ha, if_pos hb] at h; omega
theorem xAd_A {E : xEnv} {a : Nat} (ha : 3 ≤ a) : xA E (xAd E a) := by
  unfold xA xAd; rw [if_pos ha]; omega
/-- a slot's type: 0 int or boolean, 1 long, 2 reference -/
def xTys : List (List Nat) := [[2, 1, 0, 2, 2, 2], [2, 0, 0], [0, 2, 2, 0, 0, 0, 0, 0, 0, 2, 2, 2], [2, 2], [2, 0], [2, 2, 2, 2, 2, 0, 0, 2, 2, 0, 0]]
def xTy (t i : Nat) : Nat := if t < 10 then (xTys.getD t []).getD i 0 else if t = 11 then 1 else if t = 13 then 2 else 0
def xVal (E : xEnv) (K : xKnd) (G : xRef) (M : xMem) (L : xLng) (k i : Nat) : Value :=
  if xTy (K k).1 i = 0 then .int (M k i) else if xTy (K k).1 i = 1 then .long (L k i) else va_rf ((G k i).map (xAd E))
def xCell (E : xEnv) (K : xKnd) (G : xRef) (M : xMem) (L : xLng) (H : Heap) (k : Nat) : Prop :=
  ((K k).1 < 10 → ∃ r : vw_C, vwCl[(K k).1]? = some r ∧ (K k).2 = r.2.2 ∧ t_OB (xAd E k) (E.1.1 (K k).1) r.2.2 (E.1.2 (K k).1) H (xVal E K G M L k)) ∧
  (10 ≤ (K k).1 → (K k).1 < 14 → H[xAd E k]? = some (arrV (E.2.1 (K k).1) (K k).2 (xVal E K G M L k)))
def xRel (E : xEnv) (q : xS) (H : Heap) : Prop :=
  (∀ k, 3 ≤ k → k < q.2.1 → xCell E q.2.2.1 q.2.2.2.1 q.2.2.2.2.1 q.2.2.2.2.2 H k) ∧ 3 ≤ q.2.1 ∧ xB E + q.2.1 ≤ H.size + 3 ∧ (q.1 = true → H.size + 3 = xB E + q.2.1)
def xIs (n : Nat) (K : xKnd) (a c N : Nat) : Prop := 3 ≤ a ∧ a < n ∧ K a = (c, N) ∧ N < 2 ^ 31
def xLeast : Nat → Int32 := fun i => if i = 2 ∨ i = 3 then 1 else if i = 4 then 500 else 0
def xGreatest : Nat → Int32 := fun i => if i = 0 then 40 else if i = 1 then 20 else if i = 2 then 9 else if i = 3 then 200 else 5000
def xTyl (E : xEnv) : List (ClassId × FieldType) := [(E.2.1 10, .int), (E.2.1 13, .object RX3)]
def xStrs : List (String × Nat × String) := [("ImpactPlate", 59, "a character code is 0 to 255"), ("ImpactPlate", 70, "the text already has 100 characters"), ("ImpactPlate", 84, "the text is not a storm"), ("ImpactPlate", 148, "what is 0 to 11"), ("ImpactPlate", 150, "a setting is 0 to 4"), ("ImpactPlate", 157, "a bin is 0 to 7"), ("ImpactPlate", 169, "what is 0 to 4"), ("ImpactPlate", 171, "what is 0 to 3"), ("ImpactPlate", 185, "i is not negative"), ("ImpactPlate", 190, "a fate is 0 to 3"), ("ImpactPlate", 195, "a pattern has 1 to 8 fates"), ("ImpactPlate", 201, "fates are at most n digits from 0 to 3"), ("ImpactPlate", 207, "a law is 0 to 2"), ("ImpactPlate", 220, "ticks are 0 to 99, a size is 1 to 60"), ("ImpactPlate", 228, "ticks are 1 to 99"), ("ImpactPlate", 236, "there is no such setting, or v is out of its range"), ("ImpactPlate", 238, "a border is 1 to 7"), ("ImpactPlate", 240, "a border lies at 1 to 5000"), ("ImpactPlate", 245, "each border is greater than the one before"), ("ImpactPlate", 253, "no state is remembered"), ("ImpactPlate", 261, "ticks are 0 to 99"), ("ImpactPlate", 263, "a level is 0 to 5000"), ("ImpactPlate", 265, "a window is 0 to 20, a damping 1 to 9, what 0 to 3"), ("ImpactPlate", 290, "a script has 1 to 3 commands"), ("ImpactPlate", 296, "a script has at most five digits a command"), ("ImpactPlate", 304, "rounds are 1 to 99"), ("ImpactPlate", 313, "a save slot is 0 or 1"), ("ImpactPlate", 315, "nothing has been saved in this slot")]
/-- what the tables and the old heap say, at any state -/
def xKn (E : xEnv) (U : State) : Prop :=
  va_K E.1 vwCl (xTyl E) U ∧ xB E ≤ U.heap.size ∧
  (va_X (xAd E 0) 5 xLeast U U.heap ∧ xAd E 0 < xB E) ∧ (va_X (xAd E 1) 5 xGreatest U U.heap ∧ xAd E 1 < xB E) ∧ (va_X (xAd E 2) E.2.2.2.1 E.2.2.2.2 U U.heap ∧ xAd E 2 < xB E) ∧
  va_Z RX5 "LEAST_SETTING" "[I" (.ref (xAd E 0)) (xA E) U U.heap ∧ va_Z RX5 "GREATEST_SETTING" "[I" (.ref (xAd E 1)) (xA E) U U.heap ∧
  vx_Zq Bundle.tN "UNASSIGNED_STACK" Bundle.steD (xA E) U U.heap ∧ vx_Zq Bundle.tN "SUPPRESSED_SENTINEL" Bundle.listD (xA E) U U.heap ∧
  (∀ q ∈ xStrs, ∃ a, vk_R q.1 q.2.1 q.2.2 a U) ∧ va_AO RX3 U ∧
  va_Nc "java/lang/IllegalStateException" "java/lang/IllegalArgumentException" U ∧ va_Nc "java/lang/IllegalArgumentException" "java/lang/IndexOutOfBoundsException" U ∧ va_Nc "java/lang/IllegalStateException" "java/lang/IndexOutOfBoundsException" U
theorem xKn.go {E : xEnv} {s U : State} {H : Heap} {locs : List Loc} (h : xKn E s) (hS : va_S (xA E) s.heap H locs) (hU : U.heap = H) (hW : s.WarmedH U.vm) : xKn E U := by
  obtain ⟨h1, h2, ⟨h3, h3'⟩, ⟨h4, h4'⟩, ⟨h5, h5'⟩, h6, h7, h8, h9, h10, h11, h12, h13, h14⟩ := h
  have old : ∀ b : Nat, b < xB E → H[b]? = s.heap[b]? := fun b hb => hS.2.1 b (by omega) (by unfold xA; omega)
  subst hU
  exact ⟨h1.moved hW.alike, Nat.le_trans h2 hS.1, ⟨(h3.moved hW.alike).kept (old _ h3'), h3'⟩, ⟨(h4.moved hW.alike).kept (old _ h4'), h4'⟩, ⟨(h5.moved hW.alike).kept (old _ h5'), h5'⟩,
    va_Z.moved hW.alike (h6.kept hS.2.1), va_Z.moved hW.alike (h7.kept hS.2.1), vx_Zq.moved hW.alike (h8.kept hS.2.1), vx_Zq.moved hW.alike (h9.kept hS.2.1),
    fun q hq => by obtain ⟨a, ha⟩ := h10 q hq; exact ⟨a, ha.warm hW⟩, va_AO.moved hW.alike h11, h12.moved hW.alike, h13.moved hW.alike, h14.moved hW.alike⟩
theorem xKn.calling {E : xEnv} {U : State} (g : JFrame) (mk : MethodId) (a : Array Value) (h : xKn E U) : xKn E (U.calling g mk a) := by
  have e := h.go (U := U.calling g mk a) (H := U.heap) (locs := []) va_S.rf rfl (State.WarmedH.refl U)
  exact e
/-! the words that stay -/
def xok : Cond → Bool
  | .fieldLinkNest .. => true
  | .methodLinkNest .. => true
  | w => goodWord w || (w.onTables && w.faceAtom)
theorem xok_at {args a' : Array Value} {s U : State} (hW : s.WarmedH U.vm) : ∀ {w : Cond}, xok w = true → w.before args s = true → w.before a' U = true := by
  have face : ∀ {w : Cond}, (goodWord w || (w.onTables && w.faceAtom)) = true → w.before args s = true → w.before a' U = true := by
    intro w hg h
    simp only [Bool.or_eq_true, Bool.and_eq_true] at hg
    rcases hg with hg | ⟨h1, h2⟩
    · exact word_at hW (good_of_word hg) h
    · exact va_tabs h1 (rfl : (s.setVm U.vm).vm = U.vm) (Cond.faceAtom_setVm hW.alike w h2 h)
  intro w hg h
  cases w
  case fieldLinkNest a i b n d hst => exact va_tabs rfl (rfl : (s.setVm U.vm).vm = U.vm) (Cond.fieldLinkNest_warmed hW h)
  case methodLinkNest a i x hst => exact va_tabs rfl (rfl : (s.setVm U.vm).vm = U.vm) (Cond.methodLinkNest_warmed hW h)
  all_goals exact face hg h
def xTT : List Cond := lw_tbl.filter xok
theorem xTT_of {w : Cond} (h : w ∈ lw_tbl) (hk : xok w = true) : w ∈ xTT := List.mem_filter.mpr ⟨h, hk⟩
theorem xTT_at {args a' : Array Value} {s U : State} (hW : s.WarmedH U.vm) (hts : ∀ w ∈ xTT, w.before args s = true) : ∀ w ∈ xTT, w.before a' U = true :=
  fun w hw => xok_at hW (List.mem_filter.mp hw).2 (hts w hw)
/-! the judgement -/
abbrev xQ : Type := State → Array Value → List Frame → State → Prop
def xCtx (E : xEnv) (Y : xY) (p : Program) (s : State) (m : MethodId) (args : Array Value) (meth : Method) (c : Code) : Prop :=
  p.tables.exec = Jvm.exec ∧ c.code = Y.2.1 ∧ c.maxLocals = Y.2.2.1 ∧ meth.sig.returnType = Y.2.2.2.1 ∧ meth.locks = false ∧ meth.name = Y.1.name ∧ s.vm.findClass Y.1.cls = some m.cls ∧
  (∀ w ∈ xTT, w.before args s = true) ∧ xKn E s ∧ c.exceptionTable.toList = tableOf Y.2.2.2.2.2
def xHas (E : xEnv) (lc : Array Slot) (nL : Nat) (ls : List (Option Value)) : Prop :=
  lc.size = nL ∧ lv_wf lc ∧ ∀ (i : Nat) (v : Value), ls[i]? = some (some v) → lc[i]? = some (.val (xv E v))
def V (E : xEnv) (l : Launch) (Y : xY) (Q : xQ) (q : xS) (cs : Nat × Nat) (pc : Nat) (ls : List (Option Value)) (st : List Value) : Prop :=
  ∀ (p : Program) (e : Env) (s : State) (m : MethodId) (args : Array Value) (below : List Frame) (meth : Method) (c : Code), xCtx E Y p s m args meth c →
  ∀ (H : Heap) (locs : List Loc) (lc : Array Slot), xHas E lc Y.2.2.1 ls → xRel E q H → va_S (xA E) s.heap H locs →
  W p l e Y.2.2.2.2.1 s m args below meth c H locs cs.1 cs.2 (Q s args below) (F0 m pc lc (st.map (xv E)))

section
-- ===== PART A: goes FIRST, ahead of the names: the tables' words, and 'selects' of the private methods out of them =====
/-- a private method of a class that the tables say can be made, by its rows of tables_1 -/
def lw_okq (q : MethodName × Nat) : Prop := (q.1.cls ≠ "java/lang/invoke/MethodHandle" ∧ q.1.cls ≠ "java/lang/invoke/VarHandle") ∧ Cond.instantiable q.1.cls q.2 ∈ tables_1 ∧ Cond.privateMethod q.1 ∈ tables_1 ∧ Cond.instanceMethod q.1 ∈ tables_1
theorem lw_p0 : lw_okq (⟨"ImpactPlate$Text", "errorInPart", "(I)I"⟩, 2) := ⟨⟨by decide +kernel, by decide +kernel⟩, List.mem_of_getElem? (i := 24) (by decide +kernel), List.mem_of_getElem? (i := 214) (by decide +kernel), List.mem_of_getElem? (i := 215) (by decide +kernel)⟩
theorem lw_p1 : lw_okq (⟨"ImpactPlate$Text", "errorInDrop", "(I)I"⟩, 2) := ⟨⟨by decide +kernel, by decide +kernel⟩, List.mem_of_getElem? (i := 24) (by decide +kernel), List.mem_of_getElem? (i := 218) (by decide +kernel), List.mem_of_getElem? (i := 219) (by decide +kernel)⟩
theorem lw_p2 : lw_okq (⟨"ImpactPlate$Text", "errorInNumber", "(IIII)I"⟩, 2) := ⟨⟨by decide +kernel, by decide +kernel⟩, List.mem_of_getElem? (i := 24) (by decide +kernel), List.mem_of_getElem? (i := 222) (by decide +kernel), List.mem_of_getElem? (i := 223) (by decide +kernel)⟩
theorem lw_p3 : lw_okq (⟨"ImpactPlate$Text", "errorInSetting", "(III)I"⟩, 2) := ⟨⟨by decide +kernel, by decide +kernel⟩, List.mem_of_getElem? (i := 24) (by decide +kernel), List.mem_of_getElem? (i := 233) (by decide +kernel), List.mem_of_getElem? (i := 234) (by decide +kernel)⟩
theorem lw_p4 : lw_okq (⟨"ImpactPlate", "remember", "()V"⟩, 11) := ⟨⟨by decide +kernel, by decide +kernel⟩, List.mem_of_getElem? (i := 16) (by decide +kernel), List.mem_of_getElem? (i := 253) (by decide +kernel), List.mem_of_getElem? (i := 254) (by decide +kernel)⟩
theorem lw_p5 : lw_okq (⟨"java/lang/Throwable", "fillInStackTrace", "(I)Ljava/lang/Throwable;"⟩, 6) := ⟨⟨by decide +kernel, by decide +kernel⟩, List.mem_of_getElem? (i := 343) (by decide +kernel), List.mem_of_getElem? (i := 341) (by decide +kernel), List.mem_of_getElem? (i := 342) (by decide +kernel)⟩
theorem lw_p6 : lw_okq (⟨"ImpactPlate", "runPart", "(I)V"⟩, 11) := ⟨⟨by decide +kernel, by decide +kernel⟩, List.mem_of_getElem? (i := 16) (by decide +kernel), List.mem_of_getElem? (i := 406) (by decide +kernel), List.mem_of_getElem? (i := 407) (by decide +kernel)⟩
theorem lw_p7 : lw_okq (⟨"ImpactPlate$Plate", "strike", "(I)V"⟩, 12) := ⟨⟨by decide +kernel, by decide +kernel⟩, List.mem_of_getElem? (i := 45) (by decide +kernel), List.mem_of_getElem? (i := 436) (by decide +kernel), List.mem_of_getElem? (i := 437) (by decide +kernel)⟩
theorem lw_p8 : lw_okq (⟨"ImpactPlate$Plate", "binOf", "(I)I"⟩, 12) := ⟨⟨by decide +kernel, by decide +kernel⟩, List.mem_of_getElem? (i := 45) (by decide +kernel), List.mem_of_getElem? (i := 445) (by decide +kernel), List.mem_of_getElem? (i := 446) (by decide +kernel)⟩
theorem lw_p9 : lw_okq (⟨"ImpactPlate$Plate", "openPulse", "(I)V"⟩, 12) := ⟨⟨by decide +kernel, by decide +kernel⟩, List.mem_of_getElem? (i := 45) (by decide +kernel), List.mem_of_getElem? (i := 449) (by decide +kernel), List.mem_of_getElem? (i := 450) (by decide +kernel)⟩
theorem lw_p10 : lw_okq (⟨"ImpactPlate$LastNumbers", "standsAt", "(III)Z"⟩, 3) := ⟨⟨by decide +kernel, by decide +kernel⟩, List.mem_of_getElem? (i := 106) (by decide +kernel), List.mem_of_getElem? (i := 579) (by decide +kernel), List.mem_of_getElem? (i := 580) (by decide +kernel)⟩
theorem lw_p11 : lw_okq (⟨"ImpactPlate$Plate", "endByLaw", "(II)I"⟩, 12) := ⟨⟨by decide +kernel, by decide +kernel⟩, List.mem_of_getElem? (i := 45) (by decide +kernel), List.mem_of_getElem? (i := 595) (by decide +kernel), List.mem_of_getElem? (i := 596) (by decide +kernel)⟩
theorem lw_p12 : lw_okq (⟨"ImpactPlate", "replayRecord", "(III)I"⟩, 11) := ⟨⟨by decide +kernel, by decide +kernel⟩, List.mem_of_getElem? (i := 16) (by decide +kernel), List.mem_of_getElem? (i := 692) (by decide +kernel), List.mem_of_getElem? (i := 693) (by decide +kernel)⟩
theorem lw_p13 : lw_okq (⟨"ImpactPlate", "runCommand", "(I)Z"⟩, 11) := ⟨⟨by decide +kernel, by decide +kernel⟩, List.mem_of_getElem? (i := 16) (by decide +kernel), List.mem_of_getElem? (i := 728) (by decide +kernel), List.mem_of_getElem? (i := 729) (by decide +kernel)⟩
theorem lw_p14 : lw_okq (⟨"ImpactPlate", "scriptedFall", "(II)Z"⟩, 11) := ⟨⟨by decide +kernel, by decide +kernel⟩, List.mem_of_getElem? (i := 16) (by decide +kernel), List.mem_of_getElem? (i := 732) (by decide +kernel), List.mem_of_getElem? (i := 733) (by decide +kernel)⟩
theorem lw_p15 : lw_okq (⟨"ImpactPlate", "scriptedPass", "(I)Z"⟩, 11) := ⟨⟨by decide +kernel, by decide +kernel⟩, List.mem_of_getElem? (i := 16) (by decide +kernel), List.mem_of_getElem? (i := 736) (by decide +kernel), List.mem_of_getElem? (i := 737) (by decide +kernel)⟩
def lw_privs_1 : List (MethodName × Nat) := [(⟨"ImpactPlate$Text", "errorInPart", "(I)I"⟩, 2), (⟨"ImpactPlate$Text", "errorInDrop", "(I)I"⟩, 2), (⟨"ImpactPlate$Text", "errorInNumber", "(IIII)I"⟩, 2), (⟨"ImpactPlate$Text", "errorInSetting", "(III)I"⟩, 2), (⟨"ImpactPlate", "remember", "()V"⟩, 11), (⟨"java/lang/Throwable", "fillInStackTrace", "(I)Ljava/lang/Throwable;"⟩, 6), (⟨"ImpactPlate", "runPart", "(I)V"⟩, 11), (⟨"ImpactPlate$Plate", "strike", "(I)V"⟩, 12), (⟨"ImpactPlate$Plate", "binOf", "(I)I"⟩, 12), (⟨"ImpactPlate$Plate", "openPulse", "(I)V"⟩, 12), (⟨"ImpactPlate$LastNumbers", "standsAt", "(III)Z"⟩, 3), (⟨"ImpactPlate$Plate", "endByLaw", "(II)I"⟩, 12), (⟨"ImpactPlate", "replayRecord", "(III)I"⟩, 11), (⟨"ImpactPlate", "runCommand", "(I)Z"⟩, 11), (⟨"ImpactPlate", "scriptedFall", "(II)Z"⟩, 11), (⟨"ImpactPlate", "scriptedPass", "(I)Z"⟩, 11)]
theorem lw_r1 : ∀ q ∈ lw_privs_1, lw_okq q := List.forall_mem_cons.mpr ⟨lw_p0, List.forall_mem_cons.mpr ⟨lw_p1, List.forall_mem_cons.mpr ⟨lw_p2, List.forall_mem_cons.mpr ⟨lw_p3, List.forall_mem_cons.mpr ⟨lw_p4, List.forall_mem_cons.mpr ⟨lw_p5, List.forall_mem_cons.mpr ⟨lw_p6, List.forall_mem_cons.mpr ⟨lw_p7, List.forall_mem_cons.mpr ⟨lw_p8, List.forall_mem_cons.mpr ⟨lw_p9, List.forall_mem_cons.mpr ⟨lw_p10, List.forall_mem_cons.mpr ⟨lw_p11, List.forall_mem_cons.mpr ⟨lw_p12, List.forall_mem_cons.mpr ⟨lw_p13, List.forall_mem_cons.mpr ⟨lw_p14, List.forall_mem_cons.mpr ⟨lw_p15, fun _ h => absurd h List.not_mem_nil⟩⟩⟩⟩⟩⟩⟩⟩⟩⟩⟩⟩⟩⟩⟩⟩
theorem lw_p16 : lw_okq (⟨"ImpactPlate", "scriptedSetting", "(II)Z"⟩, 11) := ⟨⟨by decide +kernel, by decide +kernel⟩, List.mem_of_getElem? (i := 16) (by decide +kernel), List.mem_of_getElem? (i := 740) (by decide +kernel), List.mem_of_getElem? (i := 741) (by decide +kernel)⟩
theorem lw_p17 : lw_okq (⟨"ImpactPlateModel", "refused", "(I)Z"⟩, 12) := ⟨⟨by decide +kernel, by decide +kernel⟩, List.mem_of_getElem? (i := 774) (by decide +kernel), List.mem_of_getElem? (i := 836) (by decide +kernel), List.mem_of_getElem? (i := 837) (by decide +kernel)⟩
theorem lw_p18 : lw_okq (⟨"ImpactPlateModel", "readText", "()I"⟩, 12) := ⟨⟨by decide +kernel, by decide +kernel⟩, List.mem_of_getElem? (i := 774) (by decide +kernel), List.mem_of_getElem? (i := 848) (by decide +kernel), List.mem_of_getElem? (i := 849) (by decide +kernel)⟩
theorem lw_p19 : lw_okq (⟨"ImpactPlateModel", "isNext", "(I)Z"⟩, 12) := ⟨⟨by decide +kernel, by decide +kernel⟩, List.mem_of_getElem? (i := 774) (by decide +kernel), List.mem_of_getElem? (i := 852) (by decide +kernel), List.mem_of_getElem? (i := 853) (by decide +kernel)⟩
theorem lw_p20 : lw_okq (⟨"ImpactPlateModel", "accept", "(Z)V"⟩, 12) := ⟨⟨by decide +kernel, by decide +kernel⟩, List.mem_of_getElem? (i := 774) (by decide +kernel), List.mem_of_getElem? (i := 856) (by decide +kernel), List.mem_of_getElem? (i := 857) (by decide +kernel)⟩
theorem lw_p21 : lw_okq (⟨"ImpactPlateModel", "readPart", "()V"⟩, 12) := ⟨⟨by decide +kernel, by decide +kernel⟩, List.mem_of_getElem? (i := 774) (by decide +kernel), List.mem_of_getElem? (i := 860) (by decide +kernel), List.mem_of_getElem? (i := 861) (by decide +kernel)⟩
theorem lw_p22 : lw_okq (⟨"ImpactPlateModel", "digit", "(II)I"⟩, 12) := ⟨⟨by decide +kernel, by decide +kernel⟩, List.mem_of_getElem? (i := 774) (by decide +kernel), List.mem_of_getElem? (i := 864) (by decide +kernel), List.mem_of_getElem? (i := 865) (by decide +kernel)⟩
theorem lw_p23 : lw_okq (⟨"ImpactPlateModel", "two", "(II)I"⟩, 12) := ⟨⟨by decide +kernel, by decide +kernel⟩, List.mem_of_getElem? (i := 774) (by decide +kernel), List.mem_of_getElem? (i := 869) (by decide +kernel), List.mem_of_getElem? (i := 870) (by decide +kernel)⟩
theorem lw_p24 : lw_okq (⟨"ImpactPlateModel", "note", "()V"⟩, 12) := ⟨⟨by decide +kernel, by decide +kernel⟩, List.mem_of_getElem? (i := 774) (by decide +kernel), List.mem_of_getElem? (i := 989) (by decide +kernel), List.mem_of_getElem? (i := 990) (by decide +kernel)⟩
theorem lw_p25 : lw_okq (⟨"ImpactPlateModel", "fateOf", "(II)I"⟩, 12) := ⟨⟨by decide +kernel, by decide +kernel⟩, List.mem_of_getElem? (i := 774) (by decide +kernel), List.mem_of_getElem? (i := 1027) (by decide +kernel), List.mem_of_getElem? (i := 1028) (by decide +kernel)⟩
theorem lw_p26 : lw_okq (⟨"ImpactPlateModel", "begin", "()V"⟩, 12) := ⟨⟨by decide +kernel, by decide +kernel⟩, List.mem_of_getElem? (i := 774) (by decide +kernel), List.mem_of_getElem? (i := 1031) (by decide +kernel), List.mem_of_getElem? (i := 1032) (by decide +kernel)⟩
theorem lw_p27 : lw_okq (⟨"ImpactPlateModel", "play", "(II)V"⟩, 12) := ⟨⟨by decide +kernel, by decide +kernel⟩, List.mem_of_getElem? (i := 774) (by decide +kernel), List.mem_of_getElem? (i := 1047) (by decide +kernel), List.mem_of_getElem? (i := 1048) (by decide +kernel)⟩
theorem lw_p28 : lw_okq (⟨"ImpactPlateModel", "does", "(I)Z"⟩, 12) := ⟨⟨by decide +kernel, by decide +kernel⟩, List.mem_of_getElem? (i := 774) (by decide +kernel), List.mem_of_getElem? (i := 1060) (by decide +kernel), List.mem_of_getElem? (i := 1061) (by decide +kernel)⟩
def lw_privs_2 : List (MethodName × Nat) := [(⟨"ImpactPlate", "scriptedSetting", "(II)Z"⟩, 11), (⟨"ImpactPlateModel", "refused", "(I)Z"⟩, 12), (⟨"ImpactPlateModel", "readText", "()I"⟩, 12), (⟨"ImpactPlateModel", "isNext", "(I)Z"⟩, 12), (⟨"ImpactPlateModel", "accept", "(Z)V"⟩, 12), (⟨"ImpactPlateModel", "readPart", "()V"⟩, 12), (⟨"ImpactPlateModel", "digit", "(II)I"⟩, 12), (⟨"ImpactPlateModel", "two", "(II)I"⟩, 12), (⟨"ImpactPlateModel", "note", "()V"⟩, 12), (⟨"ImpactPlateModel", "fateOf", "(II)I"⟩, 12), (⟨"ImpactPlateModel", "begin", "()V"⟩, 12), (⟨"ImpactPlateModel", "play", "(II)V"⟩, 12), (⟨"ImpactPlateModel", "does", "(I)Z"⟩, 12)]
theorem lw_r2 : ∀ q ∈ lw_privs_2, lw_okq q := List.forall_mem_cons.mpr ⟨lw_p16, List.forall_mem_cons.mpr ⟨lw_p17, List.forall_mem_cons.mpr ⟨lw_p18, List.forall_mem_cons.mpr ⟨lw_p19, List.forall_mem_cons.mpr ⟨lw_p20, List.forall_mem_cons.mpr ⟨lw_p21, List.forall_mem_cons.mpr ⟨lw_p22, List.forall_mem_cons.mpr ⟨lw_p23, List.forall_mem_cons.mpr ⟨lw_p24, List.forall_mem_cons.mpr ⟨lw_p25, List.forall_mem_cons.mpr ⟨lw_p26, List.forall_mem_cons.mpr ⟨lw_p27, List.forall_mem_cons.mpr ⟨lw_p28, fun _ h => absurd h List.not_mem_nil⟩⟩⟩⟩⟩⟩⟩⟩⟩⟩⟩⟩⟩
def lw_privs : List (MethodName × Nat) := lw_privs_1 ++ (lw_privs_2)
def lw_tbl : List Cond := k2_sels lw_privs ++ tables_1
theorem lw_privs_ok : ∀ q ∈ lw_privs, lw_okq q := by
  show ∀ q ∈ lw_privs_1 ++ (lw_privs_2), lw_okq q
  exact List.forall_mem_append.mpr ⟨lw_r1, lw_r2⟩
-- ===== end of PART A; then your names; then what follows =====
/-! ===== BEGIN words of one list among another's, by their places ===== -/
theorem goodIn_r {big : List Cond} (ws : List Cond) (ps : List Nat) (hp : ws = ps.filterMap (fun i => big[i]?)) (h : ws.all goodWord = true) : GoodIn big ws := by
  intro w hw
  have h1 := List.all_eq_true.mp h w hw
  rw [hp] at hw
  obtain ⟨i, -, hi⟩ := List.mem_filterMap.mp hw
  have hm : w ∈ big := by first | exact List.mem_of_getElem? hi | exact List.getElem?_mem hi
  exact ⟨hm, good_of_word h1⟩
theorem goodIn_app {big a b : List Cond} (ha : GoodIn big a) (hb : GoodIn big b) : GoodIn big (a ++ b) := fun w h => (List.mem_append.mp h).elim (ha w) (hb w)
theorem goodIn_ca {big a b : List Cond} {c : Cond} (ha : GoodIn big (c :: a)) (hb : GoodIn big b) : GoodIn big (c :: (a ++ b)) := fun w h => (List.mem_cons.mp h).elim (fun e => ha w (List.mem_cons.mpr (Or.inl e))) (fun h => (List.mem_append.mp h).elim (fun h => ha w (List.mem_cons.mpr (Or.inr h))) (hb w))
theorem goodIn_sub {big ws : List Cond} (hm : ∀ w ∈ ws, w ∈ big) (h : ws.all goodWord = true) : GoodIn big ws := fun w hw => ⟨hm w hw, good_of_word (List.all_eq_true.mp h w hw)⟩
/-! ===== END ===== -/

/-! ===== BEGIN exceptions that leave a method, and their catching by the caller (launches without stack traces) ===== -/
section VXA
/-! The laws vx_back, vx_callV, vx_callS, vx_callSW, vx_throw0, vx_throwS follow proofs of the library, with one case more: JvmDerived/Free/Laws.lean (Back.of_free), Shelf42/LK1.lean (callV, callS), Shelf/KitTraced.lean (throwNew0V, throwNewS). -/
/-- where a method has thrown q: the class by its name, the cell, what was written, the world -/
def vx_T (XC : String → State → State → Prop) (st : State) (q : Addr) (t : State) (mc ms : Nat) (free : Addr → Prop) : Prop :=
  ∃ (E : String) (ce : Cell) (L : List Loc), XC E st t ∧ t.heap[q]? = some ce ∧ ce.vm = .none ∧ st.vm.findClass E = some ce.cls ∧ st.WarmedH t.vm ∧ st.sameButNew ({ t with vm := st.vm } : State) L mc ms ∧ ∀ z ∈ L, free z.base
def vx_Q (Qc : Array Value → State → Outcome → State → Prop) (XC : String → State → State → Prop) (mc ms : Nat) (free : Addr → Prop) : Array Value → State → Outcome → State → Prop := fun a st o t =>
  (Qc a st o t ∧ ∃ L, FrameEnd st o t L mc ms ∧ ∀ q ∈ L, free q.base) ∨ ∃ q, o = .threw q ∧ vx_T XC st q t mc ms free
/-- a callee that returns or throws -/
def vx_Met (l : Launch) (y : MethodName) (ws : List Cond) (rm : Room) (Pc : Array Value → State → Prop) (Qc : Array Value → State → Outcome → State → Prop) (XC : String → State → State → Prop) (mc ms : Nat) (free : Addr → Prop) : Prop :=
  MetFree l y (headSpec ws rm) Pc (fun _ _ _ _ _ => True) (vx_Q Qc XC mc ms free)
def vx_Post (XC : String → State → State → Prop) (mc ms : Nat) (free : Addr → Prop) : Pt → Array Value → Addr → Pt → Prop := fun A a q B =>
  ∃ (g : JFrame) (mk : MethodId) (t : State) (L : List Loc) (E : String) (ce : Cell), B.U.heap = t.heap ∧ B.U.vm = t.vm ∧ XC E (A.U.calling g mk a) t ∧ t.heap[q]? = some ce ∧ ce.vm = .none ∧ A.U.vm.findClass E = some ce.cls ∧ B.locs = A.locs ++ L ∧ (∀ z ∈ L, free z.base) ∧ B.cells = A.cells + mc ∧ B.slots = A.slots + ms
def vx_Back (l : Launch) (R : Room) (p : Program) (e : Env) (below : List Frame) (s : State) (sargs : Array Value) (y : MethodName) (len W9 : Nat)
    (Pre : Pt → Array Value → Prop) (Post : Pt → Array Value → Option Value → Pt → Prop) (PostX : Pt → Array Value → Addr → Pt → Prop) : Prop :=
  ∀ (m : MethodId) (meth : Method) (c : Code) (A : Pt) (g : JFrame) (ig : Instr) (mk : MethodId) (a : Array Value),
    Stand p l e R s m sargs below meth c A.U A.locs A.cells A.slots → g.method = m → g.locals.size = c.maxLocals → decode c.code g.pc = .ok (ig, len) →
    2 * g.monitorRoom + (g.stack.map fun v => v.category).sum ≤ W9 → A.U.methodNamed? y = some mk → Pre A a →
    (∃ (v : Option Value) (B : Pt), Stand p l e R s m sargs below meth c B.U B.locs B.cells B.slots ∧ Post A a v B ∧
      Steps p.tables e below (doInvoke e (A.U.setTop g) [] mk a).1 (B.U.setTop { g with pc := g.pc + len, stack := v.toList ++ g.stack })) ∨
    (∃ (q : Addr) (B : Pt), Stand p l e R s m sargs below meth c B.U B.locs B.cells B.slots ∧ PostX A a q B ∧
      Steps p.tables e below (doInvoke e (A.U.setTop g) [] mk a).1 ((B.U.setTop g).pushFrame (.throwing q)))
section Payer
variable {l : Launch} {R : Room} {p : Program} {e : Env} {below : List Frame} {s : State} {sargs : Array Value} {y : MethodName} {len W9 : Nat}
theorem vx_back {ws : List Cond} {rm : Room} {Pc : Array Value → State → Prop} {Qc : Array Value → State → Outcome → State → Prop} {XC : String → State → State → Prop} {mc ms : Nat} {free : Addr → Prop} {bytes : ByteArray} {maxL : Nat} {ret : Option FieldType}
    (hM : vx_Met l y ws rm Pc Qc XC mc ms free) (hblind : FrameBlind Pc) (hrc : rm.cells = mc) (hrs : rm.slots = ms)
    (hframes : rm.frames + 1 ≤ R.frames) (hlocals : W9 + (maxL + 11) + rm.locals ≤ R.locals)
    (hws : ∀ w ∈ ws, ∀ a' U, s.WarmedH U.vm → w.before a' U = true) (hcode : Cond.code y bytes maxL ret ∈ ws) (hinit : ∀ a' U, s.WarmedH U.vm → (Cond.initialized y.cls).before a' U = true) :
    vx_Back l R p e below s sargs y len W9 (PreOf R mc ms Pc) (PostOf Qc mc ms free) (vx_Post XC mc ms free) := by
  intro m meth c A g ig mk a X hg hsize hdg hW hn hp
  have h1 : (headSpec ws rm).pre.before a A.U = true := atoms_intro fun w hw => hws w hw _ _ X.warmed
  have h2 : (Cond.code y bytes maxL ret).before a A.U = true := hws _ hcode _ _ X.warmed
  have h3 : (Cond.initialized y.cls).before a A.U = true := hinit _ _ X.warmed
  have h4 : A.cells + (headSpec ws rm).room.cells ≤ R.cells := by rw [show (headSpec ws rm).room.cells = mc from hrc]; exact hp.1
  have h5 : A.slots + (headSpec ws rm).room.slots ≤ R.slots := by rw [show (headSpec ws rm).room.slots = ms from hrs]; exact hp.2.1
  have hPc : Pc a (A.U.calling g mk a) := hblind _ _ _ _ hp.2.2
  obtain ⟨U, Ls, c0, s0⟩ := A
  dsimp only [Pt.U, Pt.locs, Pt.cells, Pt.slots] at h1 h2 h3 h4 h5 X hn hPc ⊢
  obtain ⟨methY, cY, hmY, hcY, -, hlY, -, -, -, -⟩ := Cond.code_spec hn h2
  obtain ⟨kY, hkY, -⟩ := className_of_methodNamed hn
  have hinitY : kY.init = .initialized := Cond.initialized_spec (findClass_of_methodNamed hn) hkY h3
  have h : At U g.method c below := by rw [hg]; exact X.here
  have hlocals9 : W9 + (maxL + 11) + (headSpec ws rm).room.locals ≤ R.locals := hlocals
  have happ : (headSpec ws rm).appliesLoose y e.platform (U.calling g mk a) = true :=
    Spec.appliesLoose_calling (g := g) h hdg hn hkY hinitY
      (X.room_calling (g := g) (R' := (headSpec ws rm).room) hsize hmY hcY hframes (by rw [hlY]; omega) h4 h5) h1
  obtain ⟨mid, hmid⟩ := h.above
  have hfr : (U.setTop g).frames = (.java g :: mid) ++ below := by rw [State.frames_setTop' g h.top, hmid]; rfl
  obtain ⟨o, s₂, hsteps, -, hend, hq⟩ := Steps.callFree hM p X.admits X.cas X.clock (acts := []) hfr happ hPc trivial
  have hq' : vx_Q Qc XC mc ms free a (U.calling g mk a) o s₂ := hq
  rw [State.frames_setTop' g h.top] at hend
  obtain ⟨g₀, hg0⟩ := Option.isSome_iff_exists.mp h.top
  obtain ⟨r, hr⟩ := State.topJava?_eq_some.mp hg0
  have hr' : (({ U with heap := s₂.heap, slotsUsed := s₂.slotsUsed } : State).setVm s₂.vm).frames = .java g₀ :: r := hr
  rcases hq' with ⟨hqc, L, hfe, hL⟩ | ⟨q, rfl, E, ce, L, hx, hce, hcv, hcl, hW₂, hsm, hL⟩
  · obtain ⟨⟨v, rfl⟩, hW₂, e2, q2, q3, q4, q5, q6⟩ := id hfe
    have e3 : s₂ = ({ (U.calling g mk a).setFrames s₂.frames with heap := s₂.heap, slotsUsed := s₂.slotsUsed } : State).setVm s₂.vm := by
      have : s₂ = ({ s₂ with vm := (U.calling g mk a).vm } : State).setVm s₂.vm := rfl
      rw [e2] at this
      exact this
    obtain ⟨c₂, i₂, len₂, hc₂, hd₂, hf₂⟩ := hend
    have hW' : U.WarmedH s₂.vm := hW₂
    have hcc : c₂ = c := by
      have h1 : s₂.code? g.method = U.code? g.method := by
        rw [State.code?_eq, State.code?_eq, hW'.alike.method?]
      exact Option.some.inj (hc₂.symm.trans (h1.trans h.code))
    subst hcc
    have hlen : len₂ = len := by rw [hdg] at hd₂; cases hd₂; rfl
    subst hlen
    have hs₂ : s₂ = (({ U with heap := s₂.heap, slotsUsed := s₂.slotsUsed } : State).setVm s₂.vm).setTop { g with pc := g.pc + len₂, stack := v.toList ++ g.stack } := by
      refine e3.trans ?_
      rw [hf₂, State.calling_eq h.top, State.setFrames_setFrames, State.setTop_of_frames _ hr', hr]
      rfl
    have hsame : U.sameButNew ({ U with heap := s₂.heap, slotsUsed := s₂.slotsUsed } : State) L mc ms := by
      refine ⟨?_, q2, q3, q4, q5, q6⟩
      obtain ⟨t, ht, -⟩ := State.frames_cons hr
      show ({ U with heap := s₂.heap, slotsUsed := s₂.slotsUsed } : State) = { U.setFrames U.frames with heap := s₂.heap, slotsUsed := s₂.slotsUsed }
      rw [State.setFrames_self ht]
    subst hg
    refine Or.inl ⟨v, ⟨(({ U with heap := s₂.heap, slotsUsed := s₂.slotsUsed } : State).setVm s₂.vm), Ls ++ L, c0 + mc, s0 + ms⟩,
      ⟨X.admits, X.cas, X.clock, X.frames, X.room, X.hears, X.method, X.code, (X.here.setHeapUsed s₂.heap s₂.slotsUsed).setVm hW'.alike, X.tail, State.WarmedH.trans X.warmed hW', X.limits, X.bytes, X.same.trans (hsame.setVm s.vm)⟩,
      ⟨g, mk, s₂, L, rfl, rfl, hqc, rfl, hL, rfl, rfl⟩, ?_⟩
    show Steps p.tables e below _ ((({ U with heap := s₂.heap, slotsUsed := s₂.slotsUsed } : State).setVm s₂.vm).setTop { g with pc := g.pc + len₂, stack := v.toList ++ g.stack })
    rw [← hs₂]
    exact hsteps
  · obtain ⟨e2, q2, q3, q4, q5, q6⟩ := id hsm
    have e3 : s₂ = ({ (U.calling g mk a).setFrames s₂.frames with heap := s₂.heap, slotsUsed := s₂.slotsUsed } : State).setVm s₂.vm := by
      have : s₂ = ({ s₂ with vm := (U.calling g mk a).vm } : State).setVm s₂.vm := rfl
      rw [e2] at this
      exact this
    have hf₂ : s₂.frames = .throwing q :: .java g :: U.frames.tail := hend
    have hW' : U.WarmedH s₂.vm := hW₂
    have hs₂ : s₂ = ((({ U with heap := s₂.heap, slotsUsed := s₂.slotsUsed } : State).setVm s₂.vm).setTop g).pushFrame (.throwing q) := by
      refine e3.trans ?_
      rw [hf₂, State.calling_eq h.top, State.setFrames_setFrames, State.pushFrame, State.frames_setTop _ hr', State.setTop_of_frames _ hr', State.setFrames_setFrames, hr]
      rfl
    have hsame : U.sameButNew ({ U with heap := s₂.heap, slotsUsed := s₂.slotsUsed } : State) L mc ms := by
      refine ⟨?_, q2, q3, q4, q5, q6⟩
      obtain ⟨t, ht, -⟩ := State.frames_cons hr
      show ({ U with heap := s₂.heap, slotsUsed := s₂.slotsUsed } : State) = { U.setFrames U.frames with heap := s₂.heap, slotsUsed := s₂.slotsUsed }
      rw [State.setFrames_self ht]
    subst hg
    refine Or.inr ⟨q, ⟨(({ U with heap := s₂.heap, slotsUsed := s₂.slotsUsed } : State).setVm s₂.vm), Ls ++ L, c0 + mc, s0 + ms⟩,
      ⟨X.admits, X.cas, X.clock, X.frames, X.room, X.hears, X.method, X.code, (X.here.setHeapUsed s₂.heap s₂.slotsUsed).setVm hW'.alike, X.tail, State.WarmedH.trans X.warmed hW', X.limits, X.bytes, X.same.trans (hsame.setVm s.vm)⟩,
      ⟨g, mk, s₂, L, E, ce, rfl, rfl, hx, hce, hcv, hcl, rfl, hL, rfl, rfl⟩, ?_⟩
    show Steps p.tables e below _ (((({ U with heap := s₂.heap, slotsUsed := s₂.slotsUsed } : State).setVm s₂.vm).setTop g).pushFrame (.throwing q))
    rw [← hs₂]
    exact hsteps
end Payer
section Calls
variable {p : Program} {l : Launch} {e : Env} {R : Room} {s : State} {m : MethodId} {args : Array Value} {below : List Frame} {meth : Method} {c : Code} {T : State} {locs : List Loc} {cells slots : Nat}
theorem vx_callV (X : Stand p l e R s m args below meth c T locs cells slots) (hexec : p.tables.exec = Jvm.exec) {own C : String} {index : Nat} {y : MethodName} {bytes : ByteArray} {maxL : Nat} {ret : Option FieldType}
    (hown : s.vm.findClass own = some m.cls) (hlink : (Cond.methodLink own index y).before args s = true) (hinst : (Cond.instanceMethod y).before args s = true) (hsel : (Cond.selects C y y).before args s = true)
    (hcode : (Cond.code y bytes maxL ret).before args s = true) (hy : y.cls ≠ "java/lang/invoke/MethodHandle" ∧ y.cls ≠ "java/lang/invoke/VarHandle")
    {W9 : Nat} {Pre : Pt → Array Value → Prop} {Post : Pt → Array Value → Option Value → Pt → Prop} {PostX : Pt → Array Value → Addr → Pt → Prop} (hK : vx_Back l R p e below s args y 3 W9 Pre Post PostX)
    {b : Addr} {cellB : Cell} (hcell : T.heap[b]? = some cellB) (hobj : cellB.vm.isStatics = false) (hcls : s.vm.findClass C = some cellB.cls)
    {g : JFrame} (hg : g.method = m) (hsize : g.locals.size = c.maxLocals) {argsL rest : List Value} (hlen : ∀ sig, parseMethodDescriptor y.desc = some sig → argsL.length = sig.parameters.length)
    (hstack : g.stack = argsL.reverse ++ .ref b :: rest) (hW : 2 * g.monitorRoom + (rest.map fun v => v.category).sum ≤ W9) (hdg : decode c.code g.pc = .ok (.invokevirtual index, 3))
    (hpre : ∀ vm₁, s.WarmedH vm₁ → Pre ⟨T.setVm vm₁, locs, cells, slots⟩ (Value.ref b :: argsL).toArray) :
    (∃ (v : Option Value) (vm₁ : Vm) (B : Pt), s.WarmedH vm₁ ∧ Stand p l e R s m args below meth c B.U B.locs B.cells B.slots ∧ Post ⟨T.setVm vm₁, locs, cells, slots⟩ (Value.ref b :: argsL).toArray v B ∧
      ∀ target, Steps p.tables e below (B.U.setTop { g with pc := g.pc + 3, stack := v.toList ++ rest }) target → Steps p.tables e below (T.setTop g) target) ∨
    (∃ (q : Addr) (vm₁ : Vm) (B : Pt), s.WarmedH vm₁ ∧ Stand p l e R s m args below meth c B.U B.locs B.cells B.slots ∧ PostX ⟨T.setVm vm₁, locs, cells, slots⟩ (Value.ref b :: argsL).toArray q B ∧
      Steps p.tables e below (T.setTop g) ((B.U.setTop { g with stack := rest }).pushFrame (.throwing q))) := by
  obtain ⟨mk, methM, hnamed, hmethM, hstM, habM⟩ := Cond.instanceMethod_spec hinst
  obtain ⟨methM', cM, hmethM', -, -, -, -, -, -, hsigM⟩ := Cond.code_spec hnamed hcode
  cases hmethM.symm.trans hmethM'
  obtain ⟨c2, r2, m2, q1, q2, q3, q4, kP, hkP, hkPi⟩ := Cond.selects_spec hsel
  cases hcls.symm.trans q1
  cases (State.methodFound?_of_named hnamed hy).symm.trans q2
  cases hnamed.symm.trans q3
  have hselP : selectMethod e.platform s.vm cellB.cls mk = .method mk := by rw [Launch.admits_selectMethod X.admits]; exact q4
  obtain ⟨vm₁, X₁, hstep₁⟩ := X.invokevirtual hexec hown hlink hnamed hmethM hstM hkP hkPi hy (a := b) (cell := cellB) hcell
    (fun z h => by rw [h] at hobj; cases hobj) hselP hmethM habM hkP hkPi (g := g) hg (argsL := argsL) (rest := rest) (hlen _ hsigM) hstack hdg
  rcases hK m meth c ⟨T.setVm vm₁, locs, cells, slots⟩ { g with stack := rest } (.invokevirtual index) mk (Value.ref b :: argsL).toArray X₁ hg hsize hdg hW (X₁.named hnamed) (hpre vm₁ X₁.warmed) with ⟨v, B, X', hpost, hsteps⟩ | ⟨q, B, X', hpost, hsteps⟩
  · exact Or.inl ⟨v, vm₁, B, X₁.warmed, X', hpost, fun target h => hstep₁ _ fun acts => by rw [doInvoke_state]; exact hsteps.trans h⟩
  · exact Or.inr ⟨q, vm₁, B, X₁.warmed, X', hpost, hstep₁ _ fun acts => by rw [doInvoke_state]; exact hsteps⟩
theorem vx_callS (X : Stand p l e R s m args below meth c T locs cells slots) (hexec : p.tables.exec = Jvm.exec) {own : String} {index : Nat} {y : MethodName} {bytes : ByteArray} {maxL : Nat} {ret : Option FieldType}
    (hown : s.vm.findClass own = some m.cls) (hlink : (Cond.methodLink own index y).before args s = true) (hstat : (Cond.static y).before args s = true) (hinit : (Cond.initialized y.cls).before args s = true)
    (hcode : (Cond.code y bytes maxL ret).before args s = true) (hy : y.cls ≠ "java/lang/invoke/MethodHandle" ∧ y.cls ≠ "java/lang/invoke/VarHandle")
    {W9 : Nat} {Pre : Pt → Array Value → Prop} {Post : Pt → Array Value → Option Value → Pt → Prop} {PostX : Pt → Array Value → Addr → Pt → Prop} (hK : vx_Back l R p e below s args y 3 W9 Pre Post PostX)
    {g : JFrame} (hg : g.method = m) (hsize : g.locals.size = c.maxLocals) {argsL rest : List Value} (hlen : ∀ sig, parseMethodDescriptor y.desc = some sig → argsL.length = sig.parameters.length)
    (hstack : g.stack = argsL.reverse ++ rest) (hW : 2 * g.monitorRoom + (rest.map fun v => v.category).sum ≤ W9) (hdg : decode c.code g.pc = .ok (.invokestatic index, 3))
    (hpre : ∀ vm₁, s.WarmedH vm₁ → Pre ⟨T.setVm vm₁, locs, cells, slots⟩ argsL.toArray) :
    (∃ (v : Option Value) (vm₁ : Vm) (B : Pt), s.WarmedH vm₁ ∧ Stand p l e R s m args below meth c B.U B.locs B.cells B.slots ∧ Post ⟨T.setVm vm₁, locs, cells, slots⟩ argsL.toArray v B ∧
      ∀ target, Steps p.tables e below (B.U.setTop { g with pc := g.pc + 3, stack := v.toList ++ rest }) target → Steps p.tables e below (T.setTop g) target) ∨
    (∃ (q : Addr) (vm₁ : Vm) (B : Pt), s.WarmedH vm₁ ∧ Stand p l e R s m args below meth c B.U B.locs B.cells B.slots ∧ PostX ⟨T.setVm vm₁, locs, cells, slots⟩ argsL.toArray q B ∧
      Steps p.tables e below (T.setTop g) ((B.U.setTop { g with stack := rest }).pushFrame (.throwing q))) := by
  obtain ⟨mk, hnamed⟩ := Cond.code_named hcode
  obtain ⟨methM, cM, hmethM, -, -, -, -, -, -, hsigM⟩ := Cond.code_spec hnamed hcode
  have hstatic : methM.isStatic = true := Cond.static_spec hnamed hmethM hstat
  obtain ⟨kP, hkP, -⟩ := className_of_methodNamed hnamed
  have hinitP : kP.init = .initialized := Cond.initialized_spec (findClass_of_methodNamed hnamed) hkP hinit
  obtain ⟨vm₁, X₁, hstep₁⟩ := X.invokestatic hexec hown hlink hnamed hmethM hstatic hkP hinitP hy (g := g) hg (argsL := argsL) (rest := rest) (hlen _ hsigM) hstack hdg
  rcases hK m meth c ⟨T.setVm vm₁, locs, cells, slots⟩ { g with stack := rest } (.invokestatic index) mk argsL.toArray X₁ hg hsize hdg hW (X₁.named hnamed) (hpre vm₁ X₁.warmed) with ⟨v, B, X', hpost, hsteps⟩ | ⟨q, B, X', hpost, hsteps⟩
  · exact Or.inl ⟨v, vm₁, B, X₁.warmed, X', hpost, fun target h => hstep₁ _ fun acts => by rw [doInvoke_state]; exact hsteps.trans h⟩
  · exact Or.inr ⟨q, vm₁, B, X₁.warmed, X', hpost, hstep₁ _ fun acts => by rw [doInvoke_state]; exact hsteps⟩
end Calls
theorem vx_cls {s : State} {T : State} {vm₁ : Vm} {E : String} {k : ClassId} (hW : s.WarmedH vm₁) (h : (T.setVm vm₁).vm.findClass E = some k) : s.vm.findClass E = some k := by
  have h1 : vm₁.findClass E = some k := h
  rw [hW.alike.findClass] at h1
  exact h1
/-- the method's frame g, with q thrown over it -/
def vx_W (p : Program) (l : Launch) (e : Env) (R : Room) (s : State) (m : MethodId) (args : Array Value) (below : List Frame) (meth : Method) (c : Code) (H : Heap) (locs : List Loc) (cells slots : Nat) (Q : State → Prop) (g : JFrame) (q : Addr) : Prop :=
  ∀ T : State, T.heap = H → Stand p l e R s m args below meth c T locs cells slots → ∃ t, Steps p.tables e below ((T.setTop g).pushFrame (.throwing q)) t ∧ Q t
def vx_Run (p : Program) (l : Launch) (e : Env) (R : Room) (s : State) (m : MethodId) (args : Array Value) (below : List Frame) (meth : Method) (c : Code) (H : Heap) (locs : List Loc) (cells slots mc ms : Nat) (g : JFrame) (rest : List Value) (Qa : State → Outcome → State → Prop) (XC : String → State → State → Prop) (free : Addr → Prop) : Prop :=
  ∀ T : State, T.heap = H → Stand p l e R s m args below meth c T locs cells slots →
    (∃ (v : Option Value) (st₀ t T' : State) (L : List Loc), st₀.heap = H ∧ Stand p l e R s m args below meth c T' (locs ++ L) (cells + mc) (slots + ms) ∧ (∀ q ∈ L, free q.base) ∧ T'.heap = t.heap ∧ T'.vm = t.vm ∧ Qa st₀ (.returned v) t ∧
      Goes p e below T g T' { g with pc := g.pc + 3, stack := v.toList ++ rest }) ∨
    (∃ (q : Addr) (st₀ t T' : State) (L : List Loc) (E : String) (ce : Cell), st₀.heap = H ∧ Stand p l e R s m args below meth c T' (locs ++ L) (cells + mc) (slots + ms) ∧ (∀ z ∈ L, free z.base) ∧ T'.heap = t.heap ∧ T'.vm = t.vm ∧ XC E st₀ t ∧ t.heap[q]? = some ce ∧ ce.vm = .none ∧ s.vm.findClass E = some ce.cls ∧
      Steps p.tables e below (T.setTop g) ((T'.setTop { g with stack := rest }).pushFrame (.throwing q)))
def vx_X {S : Type} (px : S → Prop) (B : String → S → State → Prop) (A : Nat → Prop) : String → State → State → Prop := fun E st t => ∃ u : S, px u ∧ B E u t ∧ va_F A st t
section Runs
variable {p : Program} {l : Launch} {e : Env} {R : Room} {s : State} {m : MethodId} {args : Array Value} {below : List Frame} {meth : Method} {c : Code} {H : Heap} {locs : List Loc} {cells slots : Nat}
variable {y : MethodName} {bytes cc : ByteArray} {maxL nL mc ms n index : Nat} {ret : Option FieldType} {ws : List Cond} {rm : Room} {Pc : Array Value → State → Prop} {Qc : Array Value → State → Outcome → State → Prop} {XC : String → State → State → Prop} {free : Addr → Prop} {Ts : List Cond} {own C : String} {b : Addr} {As rest : List Value} {g : JFrame}
theorem vx_callBack (cb : CallB R s args own index y bytes maxL ret ws rm mc ms n) (hM : vx_Met l y ws rm Pc Qc XC mc ms free) (hbl : FrameBlind Pc) : vx_Back l R p e below s args y 3 8 (PreOf R mc ms Pc) (PostOf Qc mc ms free) (vx_Post XC mc ms free) := by
  obtain ⟨hrc, hrs, hfr, hlo, hws, hcw, -, hini, -⟩ := cb
  exact vx_back (bytes := bytes) (maxL := maxL) (ret := ret) hM hbl hrc hrs hfr hlo hws hcw (fun a' U hW => word_at hW (Or.inl (by first | rfl | simp [Cond.onTables, Cond.keeps, Cond.steady])) hini)
theorem vx_runV (S : CallFix p m c cc nL s args Ts own) (hM : vx_Met l y ws rm Pc Qc XC mc ms free) (cw : CallW R s args own C index y bytes maxL ret ws rm mc ms n) (hp : PreV s H C b Pc As)
    (hg : g.method = m) (hn : As.length = n) (hsize : g.locals.size = nL) (hstack : g.stack = As.reverse ++ .ref b :: rest) (hW : 2 * g.monitorRoom + (rest.map fun v => v.category).sum ≤ 8) (hdg : decode cc g.pc = .ok (.invokevirtual index, 3)) (hf : cells + mc ≤ R.cells ∧ slots + ms ≤ R.slots) :
    vx_Run p l e R s m args below meth c H locs cells slots mc ms g rest (Qc (Value.ref b :: As).toArray) XC free := by
  have hK : vx_Back l R p e below s args y 3 8 (PreOf R mc ms Pc) (PostOf Qc mc ms free) (vx_Post XC mc ms free) := vx_callBack cw.1 hM hp.1
  obtain ⟨⟨-, -, -, -, -, -, hcode, -, hy, hlen, hl⟩, hin, hse⟩ := cw
  obtain ⟨hx, hb, hml, ho, -⟩ := S
  obtain ⟨-, ⟨cellB, hcB, hoB, hclB⟩, hPc⟩ := hp
  intro T hT X
  rcases vx_callV X hx (C := C) (bytes := bytes) (maxL := maxL) (ret := ret) ho hl hin hse hcode hy hK (by rw [hT]; exact hcB) hoB hclB hg (hsize.trans hml.symm) (argsL := As) (rest := rest) (fun sig h => hn.trans (hlen sig h)) hstack hW (by rw [hb]; exact hdg)
    (fun vm₁ hW₁ => ⟨hf.1, hf.2, hPc (T.setVm vm₁) hT hW₁⟩) with ⟨v, vm₁, ⟨U', l2, c2, s2⟩, hW₁, X', ⟨g', mk, t, L, e1, e2, hq, h1, hL, h2, h3⟩, st⟩ | ⟨q, vm₁, ⟨U', l2, c2, s2⟩, hW₁, X', ⟨g', mk, t, L, E, ce, e1, e2, hq, hce, hcv, hcl, h1, hL, h2, h3⟩, st⟩
  · dsimp only [Pt.U, Pt.locs, Pt.cells, Pt.slots] at X' e1 e2 h1 h2 h3 st
    subst h1; subst h2; subst h3
    exact Or.inl ⟨v, (T.setVm vm₁).calling g' mk (Value.ref b :: As).toArray, t, U', L, hT, X', hL, e1, e2, hq, st⟩
  · dsimp only [Pt.U, Pt.locs, Pt.cells, Pt.slots] at X' e1 e2 h1 h2 h3 st hcl
    subst h1; subst h2; subst h3
    exact Or.inr ⟨q, (T.setVm vm₁).calling g' mk (Value.ref b :: As).toArray, t, U', L, E, ce, hT, X', hL, e1, e2, hq, hce, hcv, vx_cls hW₁ hcl, st⟩
theorem vx_runS (S : CallFix p m c cc nL s args Ts own) (hM : vx_Met l y ws rm Pc Qc XC mc ms free) (cw : CallB R s args own index y bytes maxL ret ws rm mc ms n ∧ (Cond.static y).before args s = true) (hp : PreS s H Pc As)
    (hg : g.method = m) (hn : As.length = n) (hsize : g.locals.size = nL) (hstack : g.stack = As.reverse ++ rest) (hW : 2 * g.monitorRoom + (rest.map fun v => v.category).sum ≤ 8) (hdg : decode cc g.pc = .ok (.invokestatic index, 3)) (hf : cells + mc ≤ R.cells ∧ slots + ms ≤ R.slots) :
    vx_Run p l e R s m args below meth c H locs cells slots mc ms g rest (Qc As.toArray) XC free := by
  have hK : vx_Back l R p e below s args y 3 8 (PreOf R mc ms Pc) (PostOf Qc mc ms free) (vx_Post XC mc ms free) := vx_callBack cw.1 hM hp.1
  obtain ⟨⟨-, -, -, -, -, -, hcode, hini, hy, hlen, hl⟩, hstt⟩ := cw
  obtain ⟨hx, hb, hml, ho, -⟩ := S
  intro T hT X
  rcases vx_callS X hx (bytes := bytes) (maxL := maxL) (ret := ret) ho hl hstt hini hcode hy hK hg (hsize.trans hml.symm) (argsL := As) (rest := rest) (fun sig h => hn.trans (hlen sig h)) hstack hW (by rw [hb]; exact hdg)
    (fun vm₁ hW₁ => ⟨hf.1, hf.2, hp.2 (T.setVm vm₁) hT hW₁⟩) with ⟨v, vm₁, ⟨U', l2, c2, s2⟩, hW₁, X', ⟨g', mk, t, L, e1, e2, hq, h1, hL, h2, h3⟩, st⟩ | ⟨q, vm₁, ⟨U', l2, c2, s2⟩, hW₁, X', ⟨g', mk, t, L, E, ce, e1, e2, hq, hce, hcv, hcl, h1, hL, h2, h3⟩, st⟩
  · dsimp only [Pt.U, Pt.locs, Pt.cells, Pt.slots] at X' e1 e2 h1 h2 h3 st
    subst h1; subst h2; subst h3
    exact Or.inl ⟨v, (T.setVm vm₁).calling g' mk As.toArray, t, U', L, hT, X', hL, e1, e2, hq, st⟩
  · dsimp only [Pt.U, Pt.locs, Pt.cells, Pt.slots] at X' e1 e2 h1 h2 h3 st hcl
    subst h1; subst h2; subst h3
    exact Or.inr ⟨q, (T.setVm vm₁).calling g' mk As.toArray, t, U', L, E, ce, hT, X', hL, e1, e2, hq, hce, hcv, vx_cls hW₁ hcl, st⟩
end Runs
section Rows
variable {p : Program} {l : Launch} {e : Env} {R : Room} {s : State} {m : MethodId} {args : Array Value} {below : List Frame} {meth : Method} {c : Code} {H : Heap} {locs : List Loc} {cells slots : Nat} {Q : State → Prop}
variable {mc ms : Nat} {free : Addr → Prop} {A0 A1 : Nat → Prop} {H0 : Heap} {a : Array Value} {pc : Nat} {ls : Array Slot} {st0 rest : List Value}
theorem vx_keep {st₀ t T' : State} {L : List Loc} (h0 : st₀.heap = H) (e1 : T'.heap = t.heap) (hS : va_S A0 H0 H locs) (hA : ∀ q, q < H.size → A1 q → A0 q) (hf : ∀ q, free q → A0 q) (hL : ∀ q ∈ L, free q.base) (hF : va_F A1 st₀ t) :
    H.size ≤ T'.heap.size ∧ (∀ q : Nat, q < H.size → ¬ A1 q → T'.heap[q]? = H[q]?) ∧ va_S A0 H0 T'.heap (locs ++ L) := by
  obtain ⟨hz, hk⟩ := hF
  rw [h0] at hz hk
  exact ⟨by rw [e1]; exact hz, fun q h1 h2 => by rw [e1]; exact hk q h1 h2,
    ⟨Nat.le_trans hS.1 (by rw [e1]; exact hz), fun q h1 h2 => by rw [e1, hk q (Nat.lt_of_lt_of_le h1 hS.1) (fun z => h2 (hA q (Nat.lt_of_lt_of_le h1 hS.1) z))]; exact hS.2.1 q h1 h2, fun q hq => by
      rcases List.mem_append.mp hq with h | h
      · exact hS.2.2 q h
      · exact hf _ (hL q h)⟩⟩
theorem vx_calli {S SX : Type} {post : Int32 → S → Prop} {px : SX → Prop} {B : S → State → Prop} {BX : String → SX → State → Prop} {AX : Nat → Prop} (hr : vx_Run p l e R s m args below meth c H locs cells slots mc ms (F0 m pc ls st0) rest (va_Qi post B A1 a) (vx_X px BX AX) free) (hS : va_S A0 H0 H locs) (hA : ∀ q, q < H.size → A1 q → A0 q) (hf : ∀ q, free q → A0 q) (hAX : ∀ q, q < H.size → AX q → A0 q)
    (kx : ∀ (E : String) (ce : Cell) (q9 : Addr) (u : SX) (t : State) (H1 : Heap) (locs1 : List Loc), t.heap = H1 → s.vm.Alike t.vm → px u → BX E u t → H.size ≤ H1.size → (∀ q : Nat, q < H.size → ¬ AX q → H1[q]? = H[q]?) → va_S A0 H0 H1 locs1 → H1[q9]? = some ce → ce.vm = .none → s.vm.findClass E = some ce.cls → vx_W p l e R s m args below meth c H1 locs1 (cells + mc) (slots + ms) Q (F0 m pc ls rest) q9)
    (kk : ∀ (r : Int32) (u : S) (t : State) (H1 : Heap) (locs1 : List Loc), t.heap = H1 → s.vm.Alike t.vm → post r u → B u t → H.size ≤ H1.size → (∀ q : Nat, q < H.size → ¬ A1 q → H1[q]? = H[q]?) → va_S A0 H0 H1 locs1 → W p l e R s m args below meth c H1 locs1 (cells + mc) (slots + ms) Q (F0 m (pc + 3) ls (.int r :: rest))) : W p l e R s m args below meth c H locs cells slots Q (F0 m pc ls st0) := by
  intro T hT X
  rcases hr T hT X with ⟨v, st₀, t, T', L, h0, X', hL, e1, e2, ⟨⟨r, u, hv, hp, hb⟩, hF⟩, st⟩ | ⟨q, st₀, t, T', L, E, ce, h0, X', hL, e1, e2, ⟨u, hp, hb, hF⟩, hce, hcv, hcl, st⟩
  · cases hv
    obtain ⟨k1, k2, k3⟩ := vx_keep h0 e1 hS hA hf hL hF
    obtain ⟨t2, a1, b1⟩ := kk r u t T'.heap (locs ++ L) e1.symm (by rw [← e2]; exact X'.warmed.alike) hp hb k1 k2 k3 T' rfl X'
    exact ⟨t2, st t2 a1, b1⟩
  · obtain ⟨k1, k2, k3⟩ := vx_keep h0 e1 hS hAX hf hL hF
    obtain ⟨t2, a1, b1⟩ := kx E ce q u t T'.heap (locs ++ L) e1.symm (by rw [← e2]; exact X'.warmed.alike) hp hb k1 k2 k3 (by rw [e1]; exact hce) hcv hcl T' rfl X'
    exact ⟨t2, st.trans a1, b1⟩
theorem vx_calll {S SX : Type} {post : Int64 → S → Prop} {px : SX → Prop} {B : S → State → Prop} {BX : String → SX → State → Prop} {AX : Nat → Prop} (hr : vx_Run p l e R s m args below meth c H locs cells slots mc ms (F0 m pc ls st0) rest (va_Ql post B A1 a) (vx_X px BX AX) free) (hS : va_S A0 H0 H locs) (hA : ∀ q, q < H.size → A1 q → A0 q) (hf : ∀ q, free q → A0 q) (hAX : ∀ q, q < H.size → AX q → A0 q)
    (kx : ∀ (E : String) (ce : Cell) (q9 : Addr) (u : SX) (t : State) (H1 : Heap) (locs1 : List Loc), t.heap = H1 → s.vm.Alike t.vm → px u → BX E u t → H.size ≤ H1.size → (∀ q : Nat, q < H.size → ¬ AX q → H1[q]? = H[q]?) → va_S A0 H0 H1 locs1 → H1[q9]? = some ce → ce.vm = .none → s.vm.findClass E = some ce.cls → vx_W p l e R s m args below meth c H1 locs1 (cells + mc) (slots + ms) Q (F0 m pc ls rest) q9)
    (kk : ∀ (r : Int64) (u : S) (t : State) (H1 : Heap) (locs1 : List Loc), t.heap = H1 → s.vm.Alike t.vm → post r u → B u t → H.size ≤ H1.size → (∀ q : Nat, q < H.size → ¬ A1 q → H1[q]? = H[q]?) → va_S A0 H0 H1 locs1 → W p l e R s m args below meth c H1 locs1 (cells + mc) (slots + ms) Q (F0 m (pc + 3) ls (.long r :: rest))) : W p l e R s m args below meth c H locs cells slots Q (F0 m pc ls st0) := by
  intro T hT X
  rcases hr T hT X with ⟨v, st₀, t, T', L, h0, X', hL, e1, e2, ⟨⟨r, u, hv, hp, hb⟩, hF⟩, st⟩ | ⟨q, st₀, t, T', L, E, ce, h0, X', hL, e1, e2, ⟨u, hp, hb, hF⟩, hce, hcv, hcl, st⟩
  · cases hv
    obtain ⟨k1, k2, k3⟩ := vx_keep h0 e1 hS hA hf hL hF
    obtain ⟨t2, a1, b1⟩ := kk r u t T'.heap (locs ++ L) e1.symm (by rw [← e2]; exact X'.warmed.alike) hp hb k1 k2 k3 T' rfl X'
    exact ⟨t2, st t2 a1, b1⟩
  · obtain ⟨k1, k2, k3⟩ := vx_keep h0 e1 hS hAX hf hL hF
    obtain ⟨t2, a1, b1⟩ := kx E ce q u t T'.heap (locs ++ L) e1.symm (by rw [← e2]; exact X'.warmed.alike) hp hb k1 k2 k3 (by rw [e1]; exact hce) hcv hcl T' rfl X'
    exact ⟨t2, st.trans a1, b1⟩
theorem vx_callf {S SX : Type} {post : UInt32 → S → Prop} {px : SX → Prop} {B : S → State → Prop} {BX : String → SX → State → Prop} {AX : Nat → Prop} (hr : vx_Run p l e R s m args below meth c H locs cells slots mc ms (F0 m pc ls st0) rest (va_Qf post B A1 a) (vx_X px BX AX) free) (hS : va_S A0 H0 H locs) (hA : ∀ q, q < H.size → A1 q → A0 q) (hf : ∀ q, free q → A0 q) (hAX : ∀ q, q < H.size → AX q → A0 q)
    (kx : ∀ (E : String) (ce : Cell) (q9 : Addr) (u : SX) (t : State) (H1 : Heap) (locs1 : List Loc), t.heap = H1 → s.vm.Alike t.vm → px u → BX E u t → H.size ≤ H1.size → (∀ q : Nat, q < H.size → ¬ AX q → H1[q]? = H[q]?) → va_S A0 H0 H1 locs1 → H1[q9]? = some ce → ce.vm = .none → s.vm.findClass E = some ce.cls → vx_W p l e R s m args below meth c H1 locs1 (cells + mc) (slots + ms) Q (F0 m pc ls rest) q9)
    (kk : ∀ (r : UInt32) (u : S) (t : State) (H1 : Heap) (locs1 : List Loc), t.heap = H1 → s.vm.Alike t.vm → post r u → B u t → H.size ≤ H1.size → (∀ q : Nat, q < H.size → ¬ A1 q → H1[q]? = H[q]?) → va_S A0 H0 H1 locs1 → W p l e R s m args below meth c H1 locs1 (cells + mc) (slots + ms) Q (F0 m (pc + 3) ls (.float r :: rest))) : W p l e R s m args below meth c H locs cells slots Q (F0 m pc ls st0) := by
  intro T hT X
  rcases hr T hT X with ⟨v, st₀, t, T', L, h0, X', hL, e1, e2, ⟨⟨r, u, hv, hp, hb⟩, hF⟩, st⟩ | ⟨q, st₀, t, T', L, E, ce, h0, X', hL, e1, e2, ⟨u, hp, hb, hF⟩, hce, hcv, hcl, st⟩
  · cases hv
    obtain ⟨k1, k2, k3⟩ := vx_keep h0 e1 hS hA hf hL hF
    obtain ⟨t2, a1, b1⟩ := kk r u t T'.heap (locs ++ L) e1.symm (by rw [← e2]; exact X'.warmed.alike) hp hb k1 k2 k3 T' rfl X'
    exact ⟨t2, st t2 a1, b1⟩
  · obtain ⟨k1, k2, k3⟩ := vx_keep h0 e1 hS hAX hf hL hF
    obtain ⟨t2, a1, b1⟩ := kx E ce q u t T'.heap (locs ++ L) e1.symm (by rw [← e2]; exact X'.warmed.alike) hp hb k1 k2 k3 (by rw [e1]; exact hce) hcv hcl T' rfl X'
    exact ⟨t2, st.trans a1, b1⟩
theorem vx_calld {S SX : Type} {post : UInt64 → S → Prop} {px : SX → Prop} {B : S → State → Prop} {BX : String → SX → State → Prop} {AX : Nat → Prop} (hr : vx_Run p l e R s m args below meth c H locs cells slots mc ms (F0 m pc ls st0) rest (va_Qd post B A1 a) (vx_X px BX AX) free) (hS : va_S A0 H0 H locs) (hA : ∀ q, q < H.size → A1 q → A0 q) (hf : ∀ q, free q → A0 q) (hAX : ∀ q, q < H.size → AX q → A0 q)
    (kx : ∀ (E : String) (ce : Cell) (q9 : Addr) (u : SX) (t : State) (H1 : Heap) (locs1 : List Loc), t.heap = H1 → s.vm.Alike t.vm → px u → BX E u t → H.size ≤ H1.size → (∀ q : Nat, q < H.size → ¬ AX q → H1[q]? = H[q]?) → va_S A0 H0 H1 locs1 → H1[q9]? = some ce → ce.vm = .none → s.vm.findClass E = some ce.cls → vx_W p l e R s m args below meth c H1 locs1 (cells + mc) (slots + ms) Q (F0 m pc ls rest) q9)
    (kk : ∀ (r : UInt64) (u : S) (t : State) (H1 : Heap) (locs1 : List Loc), t.heap = H1 → s.vm.Alike t.vm → post r u → B u t → H.size ≤ H1.size → (∀ q : Nat, q < H.size → ¬ A1 q → H1[q]? = H[q]?) → va_S A0 H0 H1 locs1 → W p l e R s m args below meth c H1 locs1 (cells + mc) (slots + ms) Q (F0 m (pc + 3) ls (.double r :: rest))) : W p l e R s m args below meth c H locs cells slots Q (F0 m pc ls st0) := by
  intro T hT X
  rcases hr T hT X with ⟨v, st₀, t, T', L, h0, X', hL, e1, e2, ⟨⟨r, u, hv, hp, hb⟩, hF⟩, st⟩ | ⟨q, st₀, t, T', L, E, ce, h0, X', hL, e1, e2, ⟨u, hp, hb, hF⟩, hce, hcv, hcl, st⟩
  · cases hv
    obtain ⟨k1, k2, k3⟩ := vx_keep h0 e1 hS hA hf hL hF
    obtain ⟨t2, a1, b1⟩ := kk r u t T'.heap (locs ++ L) e1.symm (by rw [← e2]; exact X'.warmed.alike) hp hb k1 k2 k3 T' rfl X'
    exact ⟨t2, st t2 a1, b1⟩
  · obtain ⟨k1, k2, k3⟩ := vx_keep h0 e1 hS hAX hf hL hF
    obtain ⟨t2, a1, b1⟩ := kx E ce q u t T'.heap (locs ++ L) e1.symm (by rw [← e2]; exact X'.warmed.alike) hp hb k1 k2 k3 (by rw [e1]; exact hce) hcv hcl T' rfl X'
    exact ⟨t2, st.trans a1, b1⟩
theorem vx_callv {S SX : Type} {post : S → Prop} {px : SX → Prop} {B : S → State → Prop} {BX : String → SX → State → Prop} {AX : Nat → Prop} (hr : vx_Run p l e R s m args below meth c H locs cells slots mc ms (F0 m pc ls st0) rest (va_Qv post B A1 a) (vx_X px BX AX) free) (hS : va_S A0 H0 H locs) (hA : ∀ q, q < H.size → A1 q → A0 q) (hf : ∀ q, free q → A0 q) (hAX : ∀ q, q < H.size → AX q → A0 q)
    (kx : ∀ (E : String) (ce : Cell) (q9 : Addr) (u : SX) (t : State) (H1 : Heap) (locs1 : List Loc), t.heap = H1 → s.vm.Alike t.vm → px u → BX E u t → H.size ≤ H1.size → (∀ q : Nat, q < H.size → ¬ AX q → H1[q]? = H[q]?) → va_S A0 H0 H1 locs1 → H1[q9]? = some ce → ce.vm = .none → s.vm.findClass E = some ce.cls → vx_W p l e R s m args below meth c H1 locs1 (cells + mc) (slots + ms) Q (F0 m pc ls rest) q9)
    (kk : ∀ (u : S) (t : State) (H1 : Heap) (locs1 : List Loc), t.heap = H1 → s.vm.Alike t.vm → post u → B u t → H.size ≤ H1.size → (∀ q : Nat, q < H.size → ¬ A1 q → H1[q]? = H[q]?) → va_S A0 H0 H1 locs1 → W p l e R s m args below meth c H1 locs1 (cells + mc) (slots + ms) Q (F0 m (pc + 3) ls (rest))) : W p l e R s m args below meth c H locs cells slots Q (F0 m pc ls st0) := by
  intro T hT X
  rcases hr T hT X with ⟨v, st₀, t, T', L, h0, X', hL, e1, e2, ⟨⟨u, hv, hp, hb⟩, hF⟩, st⟩ | ⟨q, st₀, t, T', L, E, ce, h0, X', hL, e1, e2, ⟨u, hp, hb, hF⟩, hce, hcv, hcl, st⟩
  · cases hv
    obtain ⟨k1, k2, k3⟩ := vx_keep h0 e1 hS hA hf hL hF
    obtain ⟨t2, a1, b1⟩ := kk u t T'.heap (locs ++ L) e1.symm (by rw [← e2]; exact X'.warmed.alike) hp hb k1 k2 k3 T' rfl X'
    exact ⟨t2, st t2 a1, b1⟩
  · obtain ⟨k1, k2, k3⟩ := vx_keep h0 e1 hS hAX hf hL hF
    obtain ⟨t2, a1, b1⟩ := kx E ce q u t T'.heap (locs ++ L) e1.symm (by rw [← e2]; exact X'.warmed.alike) hp hb k1 k2 k3 (by rw [e1]; exact hce) hcv hcl T' rfl X'
    exact ⟨t2, st.trans a1, b1⟩
/-- caught by the row x of this method's table; the rows ahead don't take it -/
theorem vx_catch {own name : String} {E : String} {ce : Cell} {q : Addr} (hown : s.vm.findClass own = some m.cls) (pre : List ExceptionTableEntry) (x : ExceptionTableEntry) (suf : List ExceptionTableEntry) (hsplit : c.exceptionTable.toList = pre ++ x :: suf)
    (hpass : ∀ z ∈ pre, covers z pc = false ∨ (z.catchType ≠ 0 ∧ ∃ nm : String, (Cond.classLink own z.catchType nm).before args s = true ∧ va_Nc E nm s)) (hx : covers x pc = true) (h0 : x.catchType ≠ 0)
    (hlink : (Cond.classLink own x.catchType name).before args s = true) (hcast : (Cond.castable E name).before args s = true) (hcell : H[q]? = some ce) (hv : ce.vm = .none) (hcl : s.vm.findClass E = some ce.cls)
    (kk : W p l e R s m args below meth c H locs cells slots Q (F0 m x.handlerPc ls [.ref q])) : vx_W p l e R s m args below meth c H locs cells slots Q (F0 m pc ls rest) q := by
  intro T hT X
  have hpl : e.platform.magicAccessors = ({} : Platform).magicAccessors := by rw [X.admits.platform]
  obtain ⟨c3, c4, hc3, hc4, hasg⟩ := Cond.castable_spec hcast
  cases Option.some.inj (hc3.symm.trans hcl)
  obtain ⟨c5, hc5, hcl5⟩ := Cond.classLink_spec hown hlink e.platform hpl
  cases Option.some.inj (hc4.symm.trans hc5)
  obtain ⟨vm', X', st⟩ := X.thenCaughtThrough q (g := F0 m pc ls rest) rfl (Steps.refl _) (by rw [hT]; exact hcell) (by rw [hv]; rfl) (by obtain ⟨k9, h9, -⟩ := Vm.findClass_spec hcl; exact ⟨k9, h9⟩) pre x suf hsplit
    (fun z hz => by
      rcases hpass z hz with h | ⟨hz0, nm, hl1, hn1⟩
      · exact Or.inl h
      · obtain ⟨c6, hc6, hcl6⟩ := Cond.classLink_spec hown hl1 e.platform hpl
        obtain ⟨a8, b8, h1, h2, h3⟩ := hn1
        cases Option.some.inj (h1.symm.trans hcl)
        cases Option.some.inj (h2.symm.trans hc6)
        exact Or.inr ⟨hz0, _, hcl6, h3⟩) hx (Or.inr ⟨h0, c4, hcl5, hasg⟩)
  obtain ⟨t, a1, b1⟩ := kk (T.setVm vm') hT X'
  exact ⟨t, st.trans a1, b1⟩
end Rows
section Ends
variable {p : Program} {l : Launch} {e : Env} {R : Room} {s : State} {m : MethodId} {args : Array Value} {below : List Frame} {meth : Method} {c : Code} {H : Heap} {locs : List Loc} {cells slots : Nat} {Q : State → Prop}
variable {mc ms : Nat} {free : Addr → Prop} {A0 A1 : Nat → Prop} {H0 : Heap} {a : Array Value} {ls : Array Slot} {st0 rest : List Value}
variable {Qc : Array Value → State → Outcome → State → Prop} {XC : String → State → State → Prop}
/-- what a body that may throw owes at its end -/
def vx_MQ (below : List Frame) (Qc : Array Value → State → Outcome → State → Prop) (XC : String → State → State → Prop) (a : Array Value) (s : State) (mc ms : Nat) (free : Addr → Prop) : State → Prop := fun t =>
  ∃ o, t.status = .running ∧ Ended t below o ∧ vx_Q Qc XC mc ms free a s o t
theorem vx_ret {g : JFrame} {mc ms : Nat} (k : W p l e R s m args below meth c H locs cells slots (MQ below Qc args s mc ms free) g) : W p l e R s m args below meth c H locs cells slots (vx_MQ below Qc XC args s mc ms free) g := by
  intro T hT X
  obtain ⟨t, a1, o, b1, b2, b3, b4⟩ := k T hT X
  exact ⟨t, a1, o, b1, b2, Or.inl ⟨b3, b4⟩⟩
/-- not caught here: it goes on to the caller -/
theorem vx_widen {g : JFrame} {q : Addr} {k n : Nat} (h1 : cells ≤ k) (h2 : slots ≤ n) (kk : vx_W p l e R s m args below meth c H locs k n Q g q) : vx_W p l e R s m args below meth c H locs cells slots Q g q := fun T hT X => kk T hT (stand_widen X h1 h2)
theorem vx_out {pc : Nat} {E : String} {ce : Cell} {q : Addr} {mc ms : Nat} (hout : ∀ x ∈ c.exceptionTable.toList, covers x pc = false) (hlocks : meth.locks = false) (hcell : H[q]? = some ce) (hv : ce.vm = .none) (hcl : s.vm.findClass E = some ce.cls)
    (hx : ∀ t : State, t.heap = H → s.vm.Alike t.vm → XC E s t) (hf : ∀ z ∈ locs, free z.base) (hc : cells ≤ mc) (hs : slots ≤ ms) :
    vx_W p l e R s m args below meth c H locs cells slots (vx_MQ below Qc XC args s mc ms free) (F0 m pc ls rest) q := by
  intro T hT X
  obtain ⟨st1, hrun, hend, hW, hsm⟩ := X.leaveThrown q (g := F0 m pc ls rest) rfl rfl rfl hout hlocks
  have hcell9 : (T.setFrames (.throwing q :: below)).heap[q]? = some ce := by
    show T.heap[q]? = some ce
    rw [hT]; exact hcell
  exact ⟨_, st1, .threw q, hrun, hend, Or.inr ⟨q, rfl, E, ce, locs, hx _ hT hW.alike, hcell9, hv, hcl, hW, hsm.mono hc hs, hf⟩⟩
theorem vx_frame {U : State} {k n : Nat} (h : s.sameButNew ({ U with vm := s.vm } : State) locs k n) : s.heap.size ≤ U.heap.size ∧ ∀ q : Nat, q < s.heap.size → (∀ z ∈ locs, z.base ≠ q) → U.heap[q]? = s.heap[q]? := by
  obtain ⟨-, h2, -, -, -, h6⟩ := h
  refine ⟨h2, fun q hq hz => ?_⟩
  obtain ⟨c9, e1, e2, e3, e4⟩ := h6 q _ (Array.getElem?_eq_getElem hq)
  have hs : c9.slots = (s.heap[q]).slots := Array.ext_getElem? fun i => e4 i fun hm => hz _ hm rfl
  have h9 : c9 = s.heap[q] := by
    rw [hs] at e2
    exact e2
  have e5 : U.heap[q]? = some c9 := e1
  rw [e5, h9, Array.getElem?_eq_getElem hq]
/-- the words of a throw but the four that speak of the heap -/
def vx_no (w : Cond) : Bool := decide (w ≠ .isRef (.static Bundle.tN "UNASSIGNED_STACK" Bundle.steD)) && decide (w ≠ .isRef (.static Bundle.tN "SUPPRESSED_SENTINEL" Bundle.listD)) && decide (w ≠ .laysStatic Bundle.tN "UNASSIGNED_STACK" Bundle.steD) && decide (w ≠ .laysStatic Bundle.tN "SUPPRESSED_SENTINEL" Bundle.listD)
def vx_at0 (own : String) (ic : Nat) (X : String) (names : List String) : List Cond := (Bundle.ownAtoms0 own ic X names).filter vx_no
def vx_atS (own : String) (ic : Nat) (X : String) (names : List String) : List Cond := (Bundle.ownAtoms own ic X names).filter vx_no
/-- a word that the tables alone decide, or a good one -/
def vx_ot (w : Cond) : Bool := w.onTables || goodWord w
theorem vx_ot_at {args a' : Array Value} {s U : State} {w : Cond} (hW : s.WarmedH U.vm) (hvm : s.vm = U.vm) (hg : vx_ot w = true) (h : w.before args s = true) : w.before a' U = true := by
  simp only [vx_ot, Bool.or_eq_true] at hg
  rcases hg with hg | hg
  · exact va_tabs hg hvm h
  · exact word_at hW (good_of_word hg) h
/-- a list's words: the good ones out of the method's own list, the others by premises of their own -/
theorem vx_hat {args : Array Value} {s : State} {L B : List Cond} (h1 : ∀ w ∈ L.filter goodWord, w.before args s = true) (h2 : ∀ w ∈ L.filter (fun w => !goodWord w), w ∈ B) (h3 : ∀ w ∈ B, w.before args s = true) : ∀ w ∈ L, w.before args s = true := by
  intro w hw
  by_cases g : goodWord w = true
  · exact h1 w (List.mem_filter.mpr ⟨hw, g⟩)
  · refine h3 w (h2 w (List.mem_filter.mpr ⟨hw, ?_⟩))
    show (!goodWord w) = true
    cases hgw : goodWord w
    · rfl
    · exact absurd hgw g
theorem vx_c {args : Array Value} {s : State} {w : Cond} {B : List Cond} (h : w.before args s = true) (t : ∀ w ∈ B, w.before args s = true) : ∀ w' ∈ w :: B, w'.before args s = true := fun w' h' => (List.mem_cons.mp h').elim (fun e => by rw [e]; exact h) (t w')
theorem vx_n {args : Array Value} {s : State} : ∀ w ∈ ([] : List Cond), w.before args s = true := fun _ h => nomatch h
theorem vx_own {args : Array Value} {s : State} {L : List Cond} (h1 : ∀ w ∈ L.filter vx_no, w.before args s = true)
    (hU : (Cond.isRef (.static Bundle.tN "UNASSIGNED_STACK" Bundle.steD)).before args s = true) (hN : (Cond.isRef (.static Bundle.tN "SUPPRESSED_SENTINEL" Bundle.listD)).before args s = true)
    (lU : (Cond.laysStatic Bundle.tN "UNASSIGNED_STACK" Bundle.steD).before args s = true) (lN : (Cond.laysStatic Bundle.tN "SUPPRESSED_SENTINEL" Bundle.listD).before args s = true) : ∀ w ∈ L, w.before args s = true := by
  intro w hw
  by_cases e1 : w = .isRef (.static Bundle.tN "UNASSIGNED_STACK" Bundle.steD)
  · rw [e1]; exact hU
  · by_cases e2 : w = .isRef (.static Bundle.tN "SUPPRESSED_SENTINEL" Bundle.listD)
    · rw [e2]; exact hN
    · by_cases e3 : w = .laysStatic Bundle.tN "UNASSIGNED_STACK" Bundle.steD
      · rw [e3]; exact lU
      · by_cases e4 : w = .laysStatic Bundle.tN "SUPPRESSED_SENTINEL" Bundle.listD
        · rw [e4]; exact lN
        · exact h1 w (List.mem_filter.mpr ⟨hw, by unfold vx_no; rw [decide_eq_true e1, decide_eq_true e2, decide_eq_true e3, decide_eq_true e4]; rfl⟩)
/-- where a static field lies, its class's statics cell in H -/
def vx_L (C n d : String) (A : Nat → Prop) (U : State) (H : Heap) : Prop := ∃ (c : ClassId) (k : Class) (i : Nat) (f : Field) (a : Nat) (cell : Cell), U.vm.findClass C = some c ∧ U.fieldFound? C n d = some (c, k, i, f) ∧ f.isStatic = true ∧ k.statics = some a ∧ H[a]? = some cell ∧ cell.vm.isStatics = true ∧ cell.cls = c ∧ f.slot < cell.slots.size ∧ k.staticTypes[f.slot]? = some f.type ∧ ¬ A a
theorem vx_L.moved {C n d : String} {A : Nat → Prop} {u U : State} {H : Heap} (hvm : u.vm.Alike U.vm) (h : vx_L C n d A u H) : vx_L C n d A U H := by
  obtain ⟨c, k, i, f, a, cell, h1, h2, h3, h4, h5, h6, h7, h8, h9, h10⟩ := h
  obtain ⟨k', hi', he⟩ := State.fieldFound?_setVm hvm h2
  exact ⟨c, k', i, f, a, cell, by rw [hvm.findClass]; exact h1, hi', h3, by rw [he]; exact h4, h5, h6, h7, h8, by rw [he]; exact h9, h10⟩
theorem vx_L.kept {C n d : String} {A : Nat → Prop} {U : State} {H H1 : Heap} (h : vx_L C n d A U H) (hq : ∀ a : Nat, a < H.size → ¬ A a → H1[a]? = H[a]?) : vx_L C n d A U H1 := by
  obtain ⟨c, k, i, f, a, cell, h1, h2, h3, h4, h5, h6, h7, h8, h9, h10⟩ := h
  exact ⟨c, k, i, f, a, cell, h1, h2, h3, h4, by rw [hq a (Array.getElem?_eq_some_iff.mp h5).1 h10]; exact h5, h6, h7, h8, h9, h10⟩
theorem vx_L.narrow {C n d : String} {A B : Nat → Prop} {U : State} {H : Heap} (h : vx_L C n d A U H) (hAB : ∀ q, B q → A q) : vx_L C n d B U H := by
  obtain ⟨c, k, i, f, a, cell, h1, h2, h3, h4, h5, h6, h7, h8, h9, h10⟩ := h
  exact ⟨c, k, i, f, a, cell, h1, h2, h3, h4, h5, h6, h7, h8, h9, fun z => h10 (hAB _ z)⟩
theorem vx_L.word {C n d : String} {A : Nat → Prop} {s : State} {args : Array Value} (h : vx_L C n d A s s.heap) : (Cond.laysStatic C n d).before args s = true := by
  obtain ⟨c, k, i, f, a, cell, h1, h2, h3, h4, h5, h6, h7, h8, h9, -⟩ := h
  show (Cond.laysStatic C n d).holds args s none s [] = true
  exact Cond.laysStatic_of h1 h2 h3 h4 h5 h6 h7 h8 h9
/-- .. and what it holds: null or some reference -/
def vx_Zq (C n d : String) (A : Nat → Prop) (U : State) (H : Heap) : Prop := va_Zq C n d A U H ∧ vx_L C n d A U H
theorem vx_Zq.moved {C n d : String} {A : Nat → Prop} {u U : State} {H : Heap} (hvm : u.vm.Alike U.vm) (h : vx_Zq C n d A u H) : vx_Zq C n d A U H := ⟨va_Zq.moved hvm h.1, vx_L.moved hvm h.2⟩
theorem vx_Zq.kept {C n d : String} {A : Nat → Prop} {U : State} {H H1 : Heap} (h : vx_Zq C n d A U H) (hq : ∀ a : Nat, a < H.size → ¬ A a → H1[a]? = H[a]?) : vx_Zq C n d A U H1 := ⟨va_Zq.kept h.1 hq, vx_L.kept h.2 hq⟩
theorem vx_Zq.narrow {C n d : String} {A B : Nat → Prop} {U : State} {H : Heap} (h : vx_Zq C n d A U H) (hAB : ∀ q, B q → A q) : vx_Zq C n d B U H := ⟨va_Zq.narrow h.1 hAB, vx_L.narrow h.2 hAB⟩
theorem vx_Zqof {args : Array Value} {s : State} {C n d : String} {A : Nat → Prop} (hl : (Cond.laysStatic C n d).before args s = true) (hini : (Cond.initialized C).before args s = true) (h : (Cond.isRef (.static C n d)).before args s = true) (hA : ∀ a : Nat, a < s.heap.size → ¬ A a) : vx_Zq C n d A s s.heap := by
  refine ⟨va_Zqof hl hini h hA, ?_⟩
  obtain ⟨c, k, i, f, a, cell, h1, h2, h3, h4, h5, h6, h7, h8, h9⟩ := Cond.laysStatic_spec hl
  exact ⟨c, k, i, f, a, cell, h1, h2, h3, h4, h5, h6, h7, h8, h9, hA a (Array.getElem?_eq_some_iff.mp h5).1⟩
theorem vx_isRef {C n d : String} {v : Value} {A : Nat → Prop} {s : State} {args : Array Value} (h : va_Z C n d v A s s.heap) (hv : v.isRef = true) : (Cond.isRef (.static C n d)).before args s = true := by
  obtain ⟨cf, kf, fi, f, a, cell, h1, h2, h3, h4, h5, h6, h7, -⟩ := h
  have he : (Term.static C n d).eval args s none [] s = some v := by
    simp [Term.eval, State.fieldNamed?, h1, h2, h4, h5, h6, h7]
  simp only [Cond.before, Cond.holds, Cond.value, he]
  cases v <;> simp_all [Value.isRef]
theorem vx_isRefq {C n d : String} {A : Nat → Prop} {s : State} {args : Array Value} (h : va_Zq C n d A s s.heap) : (Cond.isRef (.static C n d)).before args s = true := by
  rcases h with h | ⟨t, h⟩
  · exact vx_isRef h rfl
  · exact vx_isRef h rfl
/-- the same frame, seen from here: as if the method were called anew in this heap -/
theorem vx_rebase {T : State} (X : Stand p l e R s m args below meth c T locs cells slots) {R' : Room} (hf : R'.frames ≤ R.frames) (hl : R'.locals ≤ R.locals) (hc : cells + R'.cells ≤ R.cells) (hs : slots + R'.slots ≤ R.slots) :
    Stand p l e R' ((T.setVm s.vm).setFrames (.invoking m args :: below)) m args below meth c T [] 0 0 := by
  have htop : (T.setVm s.vm).topJava?.isSome := X.here.top
  have hF : ((T.setVm s.vm).setFrames (.invoking m args :: below)).frames = .invoking m args :: below := State.frames_setFrames _ (State.cur_lt_of_top htop)
  obtain ⟨g₀, hg0⟩ := Option.isSome_iff_exists.mp htop
  obtain ⟨r, hr⟩ := State.topJava?_eq_some.mp hg0
  have hl9 : e.platform.stackLimits (T.setVm s.vm).me = e.platform.stackLimits s.me := X.limits
  have hb9 : (T.setVm s.vm).me.stackBytes = s.me.stackBytes := X.bytes
  refine ⟨X.admits, X.cas, X.clock, hF, ?_, X.hears, X.method, X.code, X.here, X.tail, X.warmed, ?_, ?_, ?_⟩
  · have h := X.room
    have hU : ((T.setVm s.vm).setFrames (.invoking m args :: below)).localsInUse = s.localsInUse := by
      rw [State.localsInUse_invoking hF (meth := meth) (c := c) X.method X.code, State.localsInUse_invoking X.frames X.method X.code]
    simp only [State.hasRoom, Bool.and_eq_true, decide_eq_true_eq] at h ⊢
    obtain ⟨⟨⟨⟨h1, h2, h3, h4, h5, h6⟩, h7⟩, h8⟩, h9⟩ := h
    rw [X.frames, List.length_cons] at h2 h3
    have q1 := X.heapSize
    have q2 := X.used
    simp only [hF, hU, List.length_cons, State.stackLimits_setFrames, State.stackBytes_setFrames, hl9, hb9]
    refine ⟨⟨⟨⟨by omega, by omega, by omega, by omega, by omega, h6⟩, ?_⟩, ?_⟩, X.book⟩
    · show T.heap.size + R'.cells ≤ e.platform.maxCells
      omega
    · show T.slotsUsed + R'.slots ≤ e.platform.maxSlots
      omega
  · rw [State.stackLimits_setFrames]; rfl
  · rw [State.stackBytes_setFrames]; rfl
  · refine ⟨?_, Nat.le_refl _, Nat.le_refl _, ?_, ?_, fun a c9 h9 => ⟨c9, h9, rfl, rfl, fun _ _ => rfl⟩⟩
    · obtain ⟨t, ht, -⟩ := State.frames_cons hr
      show T.setVm s.vm = { ((T.setVm s.vm).setFrames (.invoking m args :: below)).setFrames (T.setVm s.vm).frames with heap := T.heap, slotsUsed := T.slotsUsed }
      rw [State.setFrames_setFrames, State.setFrames_self ht]
      rfl
    · show T.slotsUsed = T.slotsUsed + ((T.heap.toList.drop T.heap.size).map (·.slots.size)).sum
      rw [List.drop_eq_nil_of_le (Nat.le_of_eq Array.length_toList)]
      rfl
    · show ((T.heap.toList.drop T.heap.size).map (·.slots.size)).sum ≤ 0
      rw [List.drop_eq_nil_of_le (Nat.le_of_eq Array.length_toList)]
      exact Nat.le_refl _
/-- 'throw new E()': new; dup; invokespecial; athrow -/
theorem vx_throw0 {cc : ByteArray} {pc : Nat} (hexec : p.tables.exec = Jvm.exec) (hb : c.code = cc) (hl : l.stackTraces = false) {own cls : String} {names : List String} {ik ic mc ms : Nat} {A : Nat → Prop}
    (hown : s.vm.findClass own = some m.cls) (hcls : Bundle.fit cls = true) (hnames : ∀ n ∈ names, Bundle.fit n = true)
    (hk : (Cond.classLink own ik cls).before args s = true) (hini : (Cond.initialized cls).before args s = true) (hat : ∀ w ∈ vx_at0 own ic cls names, w.before args s = true)
    (hgood : ∀ w ∈ Cond.classLink own ik cls :: Cond.initialized cls :: vx_at0 own ic cls names, vx_ot w = true)
    (hU : vx_Zq Bundle.tN "UNASSIGNED_STACK" Bundle.steD A s s.heap) (hN : vx_Zq Bundle.tN "SUPPRESSED_SENTINEL" Bundle.listD A s s.heap) (hS : va_S A s.heap H locs) (hsize : ls.size = c.maxLocals)
    (d0 : decode cc pc = .ok (.new ik, 3)) (d3 : decode cc (pc + 3) = .ok (.dup, 1)) (d4 : decode cc (pc + 4) = .ok (.invokespecial ic, 3)) (d7 : decode cc (pc + 7) = .ok (.athrow, 1))
    (hout : ∀ x ∈ c.exceptionTable.toList, covers x (pc + 7) = false)
    (hRframes : names.length + 3 < R.frames) (hRlocals : (rest.map fun v => v.category).sum + (13 * (names.length + 1) + 42) ≤ R.locals) (hRcells : cells + 1 ≤ R.cells) (hRslots : slots + 6 ≤ R.slots) (hlocks : meth.locks = false)
    (hx : ∀ t : State, s.vm.Alike t.vm → H.size ≤ t.heap.size → (∀ q : Nat, q < H.size → t.heap[q]? = H[q]?) → XC cls s t)
    (hf : ∀ z ∈ locs, free z.base) (hc : cells + 1 ≤ mc) (hs : slots + 6 ≤ ms) :
    W p l e R s m args below meth c H locs cells slots (vx_MQ below Qc XC args s mc ms free) (F0 m pc ls rest) := by
  intro T hT X
  have htr : e.platform.stackTraces = false := (show e.platform.stackTraces = l.stackTraces by rw [X.admits.platform]).trans hl
  have Y := vx_rebase X (R' := { frames := R.frames, locals := R.locals, cells := 1, slots := 6 }) (Nat.le_refl _) (Nat.le_refl _) hRcells hRslots
  obtain ⟨s', hA⟩ : ∃ z, z = (T.setVm s.vm).setFrames (.invoking m args :: below) := ⟨_, rfl⟩
  rw [← hA] at Y
  have hvm : s'.vm = s.vm := by rw [hA]; rfl
  have hhp : s'.heap = H := by rw [hA]; exact hT
  have hW0 : s.WarmedH s'.vm := by rw [hvm]; exact State.WarmedH.refl s
  have hat' : ∀ w ∈ vx_at0 own ic cls names, w.before args s' = true := fun w hw => vx_ot_at hW0 hvm.symm (hgood w (List.mem_cons_of_mem _ (List.mem_cons_of_mem _ hw))) (hat w hw)
  have hk' : (Cond.classLink own ik cls).before args s' = true := vx_ot_at hW0 hvm.symm (hgood _ List.mem_cons_self) hk
  have hini' : (Cond.initialized cls).before args s' = true := vx_ot_at hW0 hvm.symm (hgood _ (List.mem_cons_of_mem _ List.mem_cons_self)) hini
  have hU' : vx_Zq Bundle.tN "UNASSIGNED_STACK" Bundle.steD A s' s'.heap := by rw [hhp]; exact vx_Zq.moved hW0.alike (hU.kept hS.2.1)
  have hN' : vx_Zq Bundle.tN "SUPPRESSED_SENTINEL" Bundle.listD A s' s'.heap := by rw [hhp]; exact vx_Zq.moved hW0.alike (hN.kept hS.2.1)
  have h : ∀ w ∈ Bundle.ownAtoms0 own ic cls names, w.before args s' = true := vx_own hat' (vx_isRefq hU'.1) (vx_isRefq hN'.1) hU'.2.word hN'.2.word
  have hown' : s'.vm.findClass own = some m.cls := by rw [hvm]; exact hown
  have hins : (Cond.instantiable cls 6).before args s' = true := h _ (by simp [Bundle.ownAtoms0])
  obtain ⟨vm₁, cX, kX, hfX, hkX, -, -, X₁, st1⟩ := Y.newCold hexec (own := own) (C := cls) (index := ik) (n := 6) hown' hk' hins hini'
    (g := F0 m pc ls rest) rfl (by rw [hb]; exact d0) (Nat.le_refl _) (Nat.le_refl _)
  generalize hT1 : (T.setVm vm₁).pushCell { cls := cX, slots := kX.instanceTypes.map defaultValue, vm := .none } = T1 at X₁ st1
  have hcat : (Value.ref T.heap.size).category = 1 := rfl
  have hcellA : T1.heap[T.heap.size]? = some (freshCell cX kX) := by rw [← hT1]; exact State.heap_pushCell_size _ _
  have d3' : decode c.code (pc + 3) = .ok (.dup, 1) := by rw [hb]; exact d3
  obtain ⟨U, hsteps, hrun, hend, hW, hsame, ce, hce, hO⟩ := X₁.ctorThrow0 hexec htr (own := own) (cls := cls) (names := names) (ic := ic) hown' hcls hnames h (fun x hx => nomatch hx) hfX hkX hcellA (by rw [hhp, hT]; exact Nat.le_refl _)
    (g := { method := m, pc := pc + 4, locals := ls, stack := .ref T.heap.size :: .ref T.heap.size :: rest, locked := none }) rfl hsize rfl rfl (rest := rest) rfl
    (by rw [hb]; exact d4) (by rw [hb]; exact d7) hout hRframes (by simp only [List.map_cons, List.sum_cons, hcat]; omega) hlocks
  obtain ⟨f1, f2⟩ := vx_frame hsame
  rw [hhp] at f1 f2
  have hWs : s.WarmedH U.vm := State.WarmedH.trans hW0 hW
  have hcl : s.vm.findClass cls = some ce.cls := by
    have h9 := hO.cls
    rw [hvm] at h9
    exact h9
  have hall : s.sameButNew ({ U with vm := s.vm } : State) locs mc ms := by
    subst hA
    obtain ⟨e1, e2⟩ := hsame
    rw [State.setFrames_setFrames] at e1
    have h2 : (T.setVm s.vm).sameButNew ({ U with vm := s.vm } : State) [] (0 + 1) (0 + 6) := ⟨e1, e2⟩
    have h3 := X.same.trans h2
    rw [List.append_nil] at h3
    exact h3.mono hc hs
  refine ⟨U, ?_, .threw T.heap.size, hrun, hend, Or.inr ⟨T.heap.size, rfl, cls, ce, locs, hx U hWs.alike f1 (fun q hq => f2 q hq (fun z hz => nomatch hz)), hce, hO.vm, hcl, hWs, hall, hf⟩⟩
  refine st1 _ ?_
  show Steps p.tables e below (T1.setTop { method := m, pc := pc + 3, locals := ls, stack := .ref T.heap.size :: rest, locked := none }) _
  jvm_step X₁.here [X₁.here.top, hexec, d3', Value.category]
  exact hsteps
/-- 'throw new E("text")': new; dup; ldc; invokespecial; athrow -/
theorem vx_throwS {cc : ByteArray} {pc : Nat} (hexec : p.tables.exec = Jvm.exec) (hb : c.code = cc) (hl : l.stackTraces = false) {own cls text : String} {names : List String} {ik is ic mc ms sa : Nat} {A : Nat → Prop}
    (hown : s.vm.findClass own = some m.cls) (hcls : Bundle.fit cls = true) (hnames : ∀ n ∈ names, Bundle.fit n = true)
    (hk : (Cond.classLink own ik cls).before args s = true) (hini : (Cond.initialized cls).before args s = true) (hstr : vk_R own is text sa s) (hat : ∀ w ∈ vx_atS own ic cls names, w.before args s = true)
    (hgood : ∀ w ∈ Cond.classLink own ik cls :: Cond.initialized cls :: vx_atS own ic cls names, vx_ot w = true)
    (hU : vx_Zq Bundle.tN "UNASSIGNED_STACK" Bundle.steD A s s.heap) (hN : vx_Zq Bundle.tN "SUPPRESSED_SENTINEL" Bundle.listD A s s.heap) (hS : va_S A s.heap H locs) (hsize : ls.size = c.maxLocals)
    (d0 : decode cc pc = .ok (.new ik, 3)) (d3 : decode cc (pc + 3) = .ok (.dup, 1)) (d4 : decode cc (pc + 4) = .ok (.ldc is, 2)) (d6 : decode cc (pc + 6) = .ok (.invokespecial ic, 3)) (d9 : decode cc (pc + 9) = .ok (.athrow, 1))
    (hout : ∀ x ∈ c.exceptionTable.toList, covers x (pc + 9) = false)
    (hRframes : names.length + 3 < R.frames) (hRlocals : (rest.map fun v => v.category).sum + (13 * (names.length + 1) + 43) ≤ R.locals) (hRcells : cells + 1 ≤ R.cells) (hRslots : slots + 6 ≤ R.slots) (hlocks : meth.locks = false)
    (hx : ∀ t : State, s.vm.Alike t.vm → H.size ≤ t.heap.size → (∀ q : Nat, q < H.size → t.heap[q]? = H[q]?) → XC cls s t)
    (hf : ∀ z ∈ locs, free z.base) (hc : cells + 1 ≤ mc) (hs : slots + 6 ≤ ms) :
    W p l e R s m args below meth c H locs cells slots (vx_MQ below Qc XC args s mc ms free) (F0 m pc ls rest) := by
  intro T hT X
  have htr : e.platform.stackTraces = false := (show e.platform.stackTraces = l.stackTraces by rw [X.admits.platform]).trans hl
  have Y := vx_rebase X (R' := { frames := R.frames, locals := R.locals, cells := 1, slots := 6 }) (Nat.le_refl _) (Nat.le_refl _) hRcells hRslots
  obtain ⟨s', hA⟩ : ∃ z, z = (T.setVm s.vm).setFrames (.invoking m args :: below) := ⟨_, rfl⟩
  rw [← hA] at Y
  have hvm : s'.vm = s.vm := by rw [hA]; rfl
  have hhp : s'.heap = H := by rw [hA]; exact hT
  have hW0 : s.WarmedH s'.vm := by rw [hvm]; exact State.WarmedH.refl s
  have hat' : ∀ w ∈ vx_atS own ic cls names, w.before args s' = true := fun w hw => vx_ot_at hW0 hvm.symm (hgood w (List.mem_cons_of_mem _ (List.mem_cons_of_mem _ hw))) (hat w hw)
  have hk' : (Cond.classLink own ik cls).before args s' = true := vx_ot_at hW0 hvm.symm (hgood _ List.mem_cons_self) hk
  have hini' : (Cond.initialized cls).before args s' = true := vx_ot_at hW0 hvm.symm (hgood _ (List.mem_cons_of_mem _ List.mem_cons_self)) hini
  have hU' : vx_Zq Bundle.tN "UNASSIGNED_STACK" Bundle.steD A s' s'.heap := by rw [hhp]; exact vx_Zq.moved hW0.alike (hU.kept hS.2.1)
  have hN' : vx_Zq Bundle.tN "SUPPRESSED_SENTINEL" Bundle.listD A s' s'.heap := by rw [hhp]; exact vx_Zq.moved hW0.alike (hN.kept hS.2.1)
  have h : ∀ w ∈ Bundle.ownAtoms own ic cls names, w.before args s' = true := vx_own hat' (vx_isRefq hU'.1) (vx_isRefq hN'.1) hU'.2.word hN'.2.word
  have hown' : s'.vm.findClass own = some m.cls := by rw [hvm]; exact hown
  have hins : (Cond.instantiable cls 6).before args s' = true := h _ (by simp [Bundle.ownAtoms])
  obtain ⟨vm₁, cX, kX, hfX, hkX, -, -, X₁, st1⟩ := Y.newCold hexec (own := own) (C := cls) (index := ik) (n := 6) hown' hk' hins hini'
    (g := F0 m pc ls rest) rfl (by rw [hb]; exact d0) (Nat.le_refl _) (Nat.le_refl _)
  generalize hT1 : (T.setVm vm₁).pushCell { cls := cX, slots := kX.instanceTypes.map defaultValue, vm := .none } = T1 at X₁ st1
  have hcat : (Value.ref T.heap.size).category = 1 := rfl
  have hcellA : T1.heap[T.heap.size]? = some (freshCell cX kX) := by rw [← hT1]; exact State.heap_pushCell_size _ _
  have d3' : decode c.code (pc + 3) = .ok (.dup, 1) := by rw [hb]; exact d3
  have d4' : decode c.code (pc + 4) = .ok (.ldc is, 2) := by rw [hb]; exact d4
  have hstr' : vk_R own is text sa s' := vk_R.warm hW0 hstr
  obtain ⟨U, hsteps, hrun, hend, hW, hsame, ce, hce, hO⟩ := X₁.ctorThrowS hexec htr (own := own) (cls := cls) (names := names) (ic := ic) hown' hcls hnames h (fun x hx => nomatch hx) hfX hkX hcellA (by rw [hhp, hT]; exact Nat.le_refl _) (msg := .ref sa) rfl
    (g := { method := m, pc := pc + 6, locals := ls, stack := .ref sa :: .ref T.heap.size :: .ref T.heap.size :: rest, locked := none }) rfl hsize rfl rfl (rest := rest) rfl
    (by rw [hb]; exact d6) (by rw [hb]; exact d9) hout hRframes (by simp only [List.map_cons, List.sum_cons, hcat]; omega) hlocks
  obtain ⟨f1, f2⟩ := vx_frame hsame
  rw [hhp] at f1 f2
  have hWs : s.WarmedH U.vm := State.WarmedH.trans hW0 hW
  have hcl : s.vm.findClass cls = some ce.cls := by
    have h9 := hO.cls
    rw [hvm] at h9
    exact h9
  have hall : s.sameButNew ({ U with vm := s.vm } : State) locs mc ms := by
    subst hA
    obtain ⟨e1, e2⟩ := hsame
    rw [State.setFrames_setFrames] at e1
    have h2 : (T.setVm s.vm).sameButNew ({ U with vm := s.vm } : State) [] (0 + 1) (0 + 6) := ⟨e1, e2⟩
    have h3 := X.same.trans h2
    rw [List.append_nil] at h3
    exact h3.mono hc hs
  refine ⟨U, ?_, .threw T.heap.size, hrun, hend, Or.inr ⟨T.heap.size, rfl, cls, ce, locs, hx U hWs.alike f1 (fun q hq => f2 q hq (fun z hz => nomatch hz)), hce, hO.vm, hcl, hWs, hall, hf⟩⟩
  refine st1 _ ?_
  show Steps p.tables e below (T1.setTop { method := m, pc := pc + 3, locals := ls, stack := .ref T.heap.size :: rest, locked := none }) _
  jvm_step X₁.here [X₁.here.top, hexec, d3', Value.category]
  exact X₁.ldcString hexec (own := own) (text := text) (index := is) (a := sa) hown' hstr'.1 hstr'.2
    (g := { method := m, pc := pc + 4, locals := ls, stack := .ref T.heap.size :: .ref T.heap.size :: rest, locked := none }) rfl d4' _ hsteps
/-- 'throw new E("text")', the text by a wide index -/
theorem vx_throwSW {cc : ByteArray} {pc : Nat} (hexec : p.tables.exec = Jvm.exec) (hb : c.code = cc) (hl : l.stackTraces = false) {own cls text : String} {names : List String} {ik is ic mc ms sa : Nat} {A : Nat → Prop}
    (hown : s.vm.findClass own = some m.cls) (hcls : Bundle.fit cls = true) (hnames : ∀ n ∈ names, Bundle.fit n = true)
    (hk : (Cond.classLink own ik cls).before args s = true) (hini : (Cond.initialized cls).before args s = true) (hstr : vk_R own is text sa s) (hat : ∀ w ∈ vx_atS own ic cls names, w.before args s = true)
    (hgood : ∀ w ∈ Cond.classLink own ik cls :: Cond.initialized cls :: vx_atS own ic cls names, vx_ot w = true)
    (hU : vx_Zq Bundle.tN "UNASSIGNED_STACK" Bundle.steD A s s.heap) (hN : vx_Zq Bundle.tN "SUPPRESSED_SENTINEL" Bundle.listD A s s.heap) (hS : va_S A s.heap H locs) (hsize : ls.size = c.maxLocals)
    (d0 : decode cc pc = .ok (.new ik, 3)) (d3 : decode cc (pc + 3) = .ok (.dup, 1)) (d4 : decode cc (pc + 4) = .ok (.ldc_w is, 3)) (d7 : decode cc (pc + 7) = .ok (.invokespecial ic, 3)) (d10 : decode cc (pc + 10) = .ok (.athrow, 1))
    (hout : ∀ x ∈ c.exceptionTable.toList, covers x (pc + 10) = false)
    (hRframes : names.length + 3 < R.frames) (hRlocals : (rest.map fun v => v.category).sum + (13 * (names.length + 1) + 43) ≤ R.locals) (hRcells : cells + 1 ≤ R.cells) (hRslots : slots + 6 ≤ R.slots) (hlocks : meth.locks = false)
    (hx : ∀ t : State, s.vm.Alike t.vm → H.size ≤ t.heap.size → (∀ q : Nat, q < H.size → t.heap[q]? = H[q]?) → XC cls s t)
    (hf : ∀ z ∈ locs, free z.base) (hc : cells + 1 ≤ mc) (hs : slots + 6 ≤ ms) :
    W p l e R s m args below meth c H locs cells slots (vx_MQ below Qc XC args s mc ms free) (F0 m pc ls rest) := by
  intro T hT X
  have htr : e.platform.stackTraces = false := (show e.platform.stackTraces = l.stackTraces by rw [X.admits.platform]).trans hl
  have Y := vx_rebase X (R' := { frames := R.frames, locals := R.locals, cells := 1, slots := 6 }) (Nat.le_refl _) (Nat.le_refl _) hRcells hRslots
  obtain ⟨s', hA⟩ : ∃ z, z = (T.setVm s.vm).setFrames (.invoking m args :: below) := ⟨_, rfl⟩
  rw [← hA] at Y
  have hvm : s'.vm = s.vm := by rw [hA]; rfl
  have hhp : s'.heap = H := by rw [hA]; exact hT
  have hW0 : s.WarmedH s'.vm := by rw [hvm]; exact State.WarmedH.refl s
  have hat' : ∀ w ∈ vx_atS own ic cls names, w.before args s' = true := fun w hw => vx_ot_at hW0 hvm.symm (hgood w (List.mem_cons_of_mem _ (List.mem_cons_of_mem _ hw))) (hat w hw)
  have hk' : (Cond.classLink own ik cls).before args s' = true := vx_ot_at hW0 hvm.symm (hgood _ List.mem_cons_self) hk
  have hini' : (Cond.initialized cls).before args s' = true := vx_ot_at hW0 hvm.symm (hgood _ (List.mem_cons_of_mem _ List.mem_cons_self)) hini
  have hU' : vx_Zq Bundle.tN "UNASSIGNED_STACK" Bundle.steD A s' s'.heap := by rw [hhp]; exact vx_Zq.moved hW0.alike (hU.kept hS.2.1)
  have hN' : vx_Zq Bundle.tN "SUPPRESSED_SENTINEL" Bundle.listD A s' s'.heap := by rw [hhp]; exact vx_Zq.moved hW0.alike (hN.kept hS.2.1)
  have h : ∀ w ∈ Bundle.ownAtoms own ic cls names, w.before args s' = true := vx_own hat' (vx_isRefq hU'.1) (vx_isRefq hN'.1) hU'.2.word hN'.2.word
  have hown' : s'.vm.findClass own = some m.cls := by rw [hvm]; exact hown
  have hins : (Cond.instantiable cls 6).before args s' = true := h _ (by simp [Bundle.ownAtoms])
  obtain ⟨vm₁, cX, kX, hfX, hkX, -, -, X₁, st1⟩ := Y.newCold hexec (own := own) (C := cls) (index := ik) (n := 6) hown' hk' hins hini'
    (g := F0 m pc ls rest) rfl (by rw [hb]; exact d0) (Nat.le_refl _) (Nat.le_refl _)
  generalize hT1 : (T.setVm vm₁).pushCell { cls := cX, slots := kX.instanceTypes.map defaultValue, vm := .none } = T1 at X₁ st1
  have hcat : (Value.ref T.heap.size).category = 1 := rfl
  have hcellA : T1.heap[T.heap.size]? = some (freshCell cX kX) := by rw [← hT1]; exact State.heap_pushCell_size _ _
  have d3' : decode c.code (pc + 3) = .ok (.dup, 1) := by rw [hb]; exact d3
  have d4' : decode c.code (pc + 4) = .ok (.ldc_w is, 3) := by rw [hb]; exact d4
  have hstr' : vk_R own is text sa s' := vk_R.warm hW0 hstr
  obtain ⟨U, hsteps, hrun, hend, hW, hsame, ce, hce, hO⟩ := X₁.ctorThrowS hexec htr (own := own) (cls := cls) (names := names) (ic := ic) hown' hcls hnames h (fun x hx => nomatch hx) hfX hkX hcellA (by rw [hhp, hT]; exact Nat.le_refl _) (msg := .ref sa) rfl
    (g := { method := m, pc := pc + 7, locals := ls, stack := .ref sa :: .ref T.heap.size :: .ref T.heap.size :: rest, locked := none }) rfl hsize rfl rfl (rest := rest) rfl
    (by rw [hb]; exact d7) (by rw [hb]; exact d10) hout hRframes (by simp only [List.map_cons, List.sum_cons, hcat]; omega) hlocks
  obtain ⟨f1, f2⟩ := vx_frame hsame
  rw [hhp] at f1 f2
  have hWs : s.WarmedH U.vm := State.WarmedH.trans hW0 hW
  have hcl : s.vm.findClass cls = some ce.cls := by
    have h9 := hO.cls
    rw [hvm] at h9
    exact h9
  have hall : s.sameButNew ({ U with vm := s.vm } : State) locs mc ms := by
    subst hA
    obtain ⟨e1, e2⟩ := hsame
    rw [State.setFrames_setFrames] at e1
    have h2 : (T.setVm s.vm).sameButNew ({ U with vm := s.vm } : State) [] (0 + 1) (0 + 6) := ⟨e1, e2⟩
    have h3 := X.same.trans h2
    rw [List.append_nil] at h3
    exact h3.mono hc hs
  refine ⟨U, ?_, .threw T.heap.size, hrun, hend, Or.inr ⟨T.heap.size, rfl, cls, ce, locs, hx U hWs.alike f1 (fun q hq => f2 q hq (fun z hz => nomatch hz)), hce, hO.vm, hcl, hWs, hall, hf⟩⟩
  refine st1 _ ?_
  show Steps p.tables e below (T1.setTop { method := m, pc := pc + 3, locals := ls, stack := .ref T.heap.size :: rest, locked := none }) _
  jvm_step X₁.here [X₁.here.top, hexec, d3', Value.category]
  exact X₁.ldcStringW hexec (own := own) (text := text) (index := is) (a := sa) hown' hstr'.1 hstr'.2
    (g := { method := m, pc := pc + 4, locals := ls, stack := .ref T.heap.size :: .ref T.heap.size :: rest, locked := none }) rfl d4' _ hsteps
end Ends
section Bodies
variable {l : Launch}
theorem vx_ofW {y : MethodName} {ws ws' : List Cond} {rm : Room} {Pc : Array Value → State → Prop} {Qc : Array Value → State → Outcome → State → Prop} {XC : String → State → State → Prop} {mc ms : Nat} {free : Addr → Prop} {cc : ByteArray} {maxL : Nat} {ret : Option FieldType}
    (hy : plainName y.cls = true) (hw : ws = Cond.code y cc maxL ret :: ws')
    (body : ∀ p e s m args below meth c s₁, BodyLoose p l y (headSpec ws rm) cc maxL ret e s m args below meth c s₁ → c.maxLocals = maxL → (∀ x ∈ c.exceptionTable.toList, False) → Pc args s →
      W p l e (headSpec ws rm).room s m args below meth c s.heap [] 0 0 (vx_MQ below Qc XC args s mc ms free) (entryFrame m args maxL)) : vx_Met l y ws rm Pc Qc XC mc ms free := by
  refine MetFree.of_bodyS (code := cc) (maxLocals := maxL) (ret := ret) hy ?_ ?_
  · intro args s m h hn
    obtain ⟨meth, c, h1, h2, h3, h4, h5, h6, -, -⟩ := Cond.code_spec hn (atoms_spec (ws := ws) h _ (by rw [hw]; exact List.mem_cons_self))
    exact ⟨meth, c, h1, h2, h3, h4, h5, h6⟩
  · intro p e s m args below meth c s₁ B hml hP _
    have hh0 : s₁.heap = s.heap := by rw [B.state]; rfl
    have ht : ∀ x ∈ c.exceptionTable.toList, False := by
      obtain ⟨meth9, c9, h1, h2, -, -, -, -, h7, -⟩ := Cond.code_spec B.named (atoms_spec (ws := ws) B.pre _ (by rw [hw]; exact List.mem_cons_self))
      cases Option.some.inj (h1.symm.trans B.method)
      cases Option.some.inj (h2.symm.trans (Stand.of_body B).code)
      intro x hx
      rw [Array.isEmpty_iff.mp h7] at hx
      cases hx
    obtain ⟨t, a1, o, b1, b2, b3⟩ := body p e s m args below meth c s₁ B hml ht hP s₁ hh0 (Stand.of_body B)
    exact ⟨t, o, a1, b1, b2, b3⟩
/-- the table of a body with handlers -/
theorem vx_table {p : Program} {x y : MethodName} {S : Spec} {cc bytes : ByteArray} {maxL maxL' : Nat} {ret ret' : Option FieldType} {e : Env} {s s₁ : State} {m : MethodId} {args : Array Value} {below : List Frame} {meth : Method} {c : Code} {hh : List (Nat × Nat × Nat × Nat)}
    (B : BodyLoose p l y S cc maxL ret e s m args below meth c s₁) (h : (Cond.codeWith y bytes maxL' ret' hh).before args s = true) : c.exceptionTable.toList = tableOf hh := by
  obtain ⟨m9, meth9, c9, hn9, h1, h2, -, -, h6, -⟩ := Cond.codeWith_spec h
  cases Option.some.inj (hn9.symm.trans B.named)
  cases Option.some.inj (h1.symm.trans B.method)
  cases Option.some.inj (h2.symm.trans (Stand.of_body B).code)
  rw [← h6, table_eq]
end Bodies
end VXA
/-! ===== END ===== -/
/-! ===== BEGIN a static call of a method with an exception table ===== -/
section VXS
variable {p : Program} {l : Launch} {e : Env} {R : Room} {s : State} {m : MethodId} {args : Array Value} {below : List Frame} {meth : Method} {c : Code} {T : State} {H : Heap} {locs : List Loc} {cells slots : Nat}
abbrev vx_CSW (R : Room) (s : State) (args : Array Value) (own : String) (index : Nat) (y : MethodName) (bytes : ByteArray) (maxL : Nat) (ret : Option FieldType) (hh : List (Nat × Nat × Nat × Nat)) (ws : List Cond) (rm : Room) (mc ms n : Nat) : Prop :=
  (rm.cells = mc ∧ rm.slots = ms ∧ rm.frames + 1 ≤ R.frames ∧ 8 + (maxL + 11) + rm.locals ≤ R.locals ∧ (∀ w ∈ ws, ∀ (a' : Array Value) (U : State), s.WarmedH U.vm → w.before a' U = true) ∧ Cond.codeWith y bytes maxL ret hh ∈ ws) ∧
  (Cond.codeWith y bytes maxL ret hh).before args s = true ∧ (Cond.initialized y.cls).before args s = true ∧ (y.cls ≠ "java/lang/invoke/MethodHandle" ∧ y.cls ≠ "java/lang/invoke/VarHandle") ∧
  (∀ sig, parseMethodDescriptor y.desc = some sig → n = sig.parameters.length) ∧ (Cond.methodLink own index y).before args s = true ∧ (Cond.static y).before args s = true
theorem vx_cwSW {own : String} {index maxL mc ms : Nat} {y : MethodName} {bytes : ByteArray} {ret : Option FieldType} {hh : List (Nat × Nat × Nat × Nat)} {Ts ws ws' : List Cond} {rm : Room} (n : Nat) (ht : ∀ w ∈ Ts, w.before args s = true) (hT : GoodIn Ts (va_wsS own index y ws)) (hw : ws = Cond.codeWith y bytes maxL ret hh :: ws') (hrc : rm.cells = mc) (hrs : rm.slots = ms)
    (hd : y.cls ≠ "java/lang/invoke/MethodHandle" ∧ y.cls ≠ "java/lang/invoke/VarHandle" ∧ (parseMethodDescriptor y.desc).map (fun d => d.parameters.length) = some n) (hR : rm.frames + 1 ≤ R.frames ∧ 8 + (maxL + 11) + rm.locals ≤ R.locals) :
    vx_CSW R s args own index y bytes maxL ret hh ws rm mc ms n := by
  have ok : ∀ w ∈ va_wsS own index y ws, w.before args s = true := fun w h => ht w (hT w h).1
  have hG : GoodIn Ts ws := fun w h => hT w (by unfold va_wsS; exact List.mem_append_right _ h)
  have hc : Cond.codeWith y bytes maxL ret hh ∈ ws := by rw [hw]; exact List.mem_cons_self
  refine ⟨⟨hrc, hrs, hR.1, hR.2, pay_in ht hG, hc⟩, ht _ (hG _ hc).1, ok _ (by simp [va_wsS]), ⟨hd.1, hd.2.1⟩, fun sig h => ?_, ok _ (by simp [va_wsS]), ok _ (by simp [va_wsS])⟩
  have h2 := hd.2.2
  rw [h] at h2
  exact (Option.some.inj h2).symm
theorem vx_callSW (X : Stand p l e R s m args below meth c T locs cells slots) (hexec : p.tables.exec = Jvm.exec) {own : String} {index : Nat} {y : MethodName} {bytes : ByteArray} {maxL : Nat} {ret : Option FieldType} {hh : List (Nat × Nat × Nat × Nat)}
    (hown : s.vm.findClass own = some m.cls) (hlink : (Cond.methodLink own index y).before args s = true) (hstat : (Cond.static y).before args s = true) (hinit : (Cond.initialized y.cls).before args s = true)
    (hcode : (Cond.codeWith y bytes maxL ret hh).before args s = true) (hy : y.cls ≠ "java/lang/invoke/MethodHandle" ∧ y.cls ≠ "java/lang/invoke/VarHandle")
    {W9 : Nat} {Pre : Pt → Array Value → Prop} {Post : Pt → Array Value → Option Value → Pt → Prop} (hK : Back l R p e below s args y 3 W9 Pre Post)
    {g : JFrame} (hg : g.method = m) (hsize : g.locals.size = c.maxLocals) {argsL rest : List Value} (hlen : ∀ sig, parseMethodDescriptor y.desc = some sig → argsL.length = sig.parameters.length)
    (hstack : g.stack = argsL.reverse ++ rest) (hW : 2 * g.monitorRoom + (rest.map fun v => v.category).sum ≤ W9) (hdg : decode c.code g.pc = .ok (.invokestatic index, 3))
    (hpre : ∀ vm₁, s.WarmedH vm₁ → Pre ⟨T.setVm vm₁, locs, cells, slots⟩ argsL.toArray) :
    ∃ (v : Option Value) (vm₁ : Vm) (B : Pt), s.WarmedH vm₁ ∧ Stand p l e R s m args below meth c B.U B.locs B.cells B.slots ∧ Post ⟨T.setVm vm₁, locs, cells, slots⟩ argsL.toArray v B ∧
      ∀ target, Steps p.tables e below (B.U.setTop { g with pc := g.pc + 3, stack := v.toList ++ rest }) target → Steps p.tables e below (T.setTop g) target := by
  obtain ⟨mk, methM, cM, hnamed, hmethM, -, -, -, -, -, -, hsigM⟩ := Cond.codeWith_spec hcode
  have hstatic : methM.isStatic = true := Cond.static_spec hnamed hmethM hstat
  obtain ⟨kP, hkP, -⟩ := className_of_methodNamed hnamed
  have hinitP : kP.init = .initialized := Cond.initialized_spec (findClass_of_methodNamed hnamed) hkP hinit
  obtain ⟨vm₁, X₁, hstep₁⟩ := X.invokestatic hexec hown hlink hnamed hmethM hstatic hkP hinitP hy (g := g) hg (argsL := argsL) (rest := rest) (hlen _ hsigM) hstack hdg
  obtain ⟨v, B, X', hpost, hsteps⟩ := hK m meth c ⟨T.setVm vm₁, locs, cells, slots⟩ { g with stack := rest } (.invokestatic index) mk argsL.toArray X₁ hg hsize hdg hW (X₁.named hnamed) (hpre vm₁ X₁.warmed)
  exact ⟨v, vm₁, B, X₁.warmed, X', hpost, fun target h => hstep₁ _ fun acts => by rw [doInvoke_state]; exact hsteps.trans h⟩
theorem vx_runSW {y : MethodName} {bytes cc : ByteArray} {maxL nL mc ms n index : Nat} {ret : Option FieldType} {hh : List (Nat × Nat × Nat × Nat)} {ws : List Cond} {rm : Room} {Pc : Array Value → State → Prop} {Qc : Array Value → State → Outcome → State → Prop} {free : Addr → Prop} {Ts : List Cond} {own : String} {As rest : List Value} {g : JFrame}
    (S : CallFix p m c cc nL s args Ts own) (hM : Met l y ws rm Pc Qc mc ms free) (cw : vx_CSW R s args own index y bytes maxL ret hh ws rm mc ms n) (hp : PreS s H Pc As)
    (hg : g.method = m) (hn : As.length = n) (hsize : g.locals.size = nL) (hstack : g.stack = As.reverse ++ rest) (hW : 2 * g.monitorRoom + (rest.map fun v => v.category).sum ≤ 8) (hdg : decode cc g.pc = .ok (.invokestatic index, 3)) (hf : cells + mc ≤ R.cells ∧ slots + ms ≤ R.slots) :
    va_Run p l e R s m args below meth c H locs cells slots mc ms g rest (Qc As.toArray) (free) := by
  obtain ⟨⟨hrc, hrs, hfr, hlo, hws, hcw⟩, hcode, hini, hy, hlen, hl, hstt⟩ := cw
  have hK : Back l R p e below s args y 3 8 (PreOf R mc ms Pc) (PostOf Qc mc ms free) := va_backW (hh := hh) (bytes := bytes) (maxL := maxL) (ret := ret) hM hp.1 hrc hrs hfr hlo hws hcw (fun a' U hW => word_at hW (Or.inl (by first | rfl | simp [Cond.onTables, Cond.keeps, Cond.steady])) hini)
  obtain ⟨hx, hb, hml, ho, -⟩ := S
  intro T hT X
  obtain ⟨v, vm₁, ⟨U', l2, c2, s2⟩, hW₁, X', ⟨g', mk, t, L, e1, e2, hq, h1, hL, h2, h3⟩, st⟩ := vx_callSW X hx (hh := hh) (bytes := bytes) (maxL := maxL) (ret := ret) ho hl hstt hini hcode hy hK hg (hsize.trans hml.symm) (argsL := As) (rest := rest) (fun sig h => hn.trans (hlen sig h)) hstack hW (by rw [hb]; exact hdg)
    (fun vm₁ hW₁ => ⟨hf.1, hf.2, hp.2 (T.setVm vm₁) hT hW₁⟩)
  dsimp only [Pt.U, Pt.locs, Pt.cells, Pt.slots] at X' e1 e2 h1 h2 h3 st
  subst h1; subst h2; subst h3
  exact ⟨v, (T.setVm vm₁).calling g' mk As.toArray, t, U', L, hT, X', hL, e1, e2, hq, st⟩
/-- not caught here, past rows that name other classes: it goes on to the caller -/
theorem vx_outP {p : Program} {l : Launch} {e : Env} {R : Room} {s : State} {m : MethodId} {args : Array Value} {below : List Frame} {meth : Method} {c : Code} {H : Heap} {locs : List Loc} {cells slots : Nat} {free : Addr → Prop} {ls : Array Slot} {rest : List Value} {Qc : Array Value → State → Outcome → State → Prop} {XC : String → State → State → Prop}
    {pc : Nat} {own E : String} {ce : Cell} {q : Addr} {mc ms : Nat} (hown : s.vm.findClass own = some m.cls) (hlocks : meth.locks = false)
    (hpass : ∀ z ∈ c.exceptionTable.toList, covers z pc = false ∨ (z.catchType ≠ 0 ∧ ∃ nm : String, (Cond.classLink own z.catchType nm).before args s = true ∧ va_Nc E nm s)) (hcell : H[q]? = some ce) (hv : ce.vm = .none) (hcl : s.vm.findClass E = some ce.cls)
    (hx : ∀ t : State, t.heap = H → s.vm.Alike t.vm → XC E s t) (hf : ∀ z ∈ locs, free z.base) (hc : cells ≤ mc) (hs : slots ≤ ms) :
    vx_W p l e R s m args below meth c H locs cells slots (vx_MQ below Qc XC args s mc ms free) (F0 m pc ls rest) q := by
  intro T hT X
  have hpl : e.platform.magicAccessors = ({} : Platform).magicAccessors := by rw [X.admits.platform]
  obtain ⟨vm', hW', X', st⟩ := X.outThrough hlocks q (g := F0 m pc ls rest) rfl rfl rfl (cell := ce) (by rw [hT]; exact hcell) (by rw [hv]; rfl)
    (by obtain ⟨k9, h9, -⟩ := Vm.findClass_spec hcl; exact ⟨k9, h9⟩) (fun z hz => by
      rcases hpass z hz with h | ⟨hz0, nm, hl1, hn1⟩
      · exact Or.inl h
      · obtain ⟨c6, hc6, hcl6⟩ := Cond.classLink_spec hown hl1 e.platform hpl
        obtain ⟨a8, b8, h1, h2, h3⟩ := hn1
        cases Option.some.inj (h1.symm.trans hcl)
        cases Option.some.inj (h2.symm.trans hc6)
        exact Or.inr ⟨hz0, _, hcl6, h3⟩)
  obtain ⟨g₀, hfr⟩ := X'.frames_eq
  have hcell9 : ((T.setVm vm').setFrames (.throwing q :: below)).heap[q]? = some ce := by
    show T.heap[q]? = some ce
    rw [hT]; exact hcell
  have hend : Ended ((T.setVm vm').setFrames (.throwing q :: below)) below (.threw q) := State.frames_setFrames _ (State.cur_lt_of_frames hfr)
  refine ⟨(T.setVm vm').setFrames (.throwing q :: below), ?_, .threw q, X'.here.running, hend, Or.inr ⟨q, rfl, E, ce, locs, hx _ hT (X'.ends _).1.alike, hcell9, hv, hcl, (X'.ends _).1, (X'.ends _).2.mono hc hs, hf⟩⟩
  rw [X.pushThrowing_eq]
  exact st
/-- a thing of a world lies in the heap -/
theorem vx_lt {D : va_G} {cl : List vw_C} {ws : va_W} {H1 : Heap} (h : va_P D cl ws H1) {k : Nat} {q : Nat × va_E} (hk : ws[k]? = some q) : q.1 < H1.size := (h k q hk).lt
end VXS
/-! ===== END ===== -/
/-! ===== BEGIN methods with a table of their own: called by a name, returning or throwing ===== -/
section VXH
/-! vx_backW, vx_callVX, vx_callSX, vx_callVW, vx_runVW, vx_runVX, vx_runSX, vx_ofWH follow the same proofs as their sisters above (Free/Laws.lean, Shelf42/LK1.lean); vx_outP calls Shelf42/NT130.lean (outThrough). -/
section
variable {l : Launch} {R : Room} {p : Program} {e : Env} {below : List Frame} {s : State} {sargs : Array Value} {y : MethodName} {len W9 : Nat}
theorem vx_backW {ws : List Cond} {rm : Room} {Pc : Array Value → State → Prop} {Qc : Array Value → State → Outcome → State → Prop} {XC : String → State → State → Prop} {mc ms : Nat} {free : Addr → Prop} {bytes : ByteArray} {maxL : Nat} {ret : Option FieldType} {hh : List (Nat × Nat × Nat × Nat)}
    (hM : vx_Met l y ws rm Pc Qc XC mc ms free) (hblind : FrameBlind Pc) (hrc : rm.cells = mc) (hrs : rm.slots = ms)
    (hframes : rm.frames + 1 ≤ R.frames) (hlocals : W9 + (maxL + 11) + rm.locals ≤ R.locals)
    (hws : ∀ w ∈ ws, ∀ a' U, s.WarmedH U.vm → w.before a' U = true) (hcode : Cond.codeWith y bytes maxL ret hh ∈ ws) (hinit : ∀ a' U, s.WarmedH U.vm → (Cond.initialized y.cls).before a' U = true) :
    vx_Back l R p e below s sargs y len W9 (PreOf R mc ms Pc) (PostOf Qc mc ms free) (vx_Post XC mc ms free) := by
  intro m meth c A g ig mk a X hg hsize hdg hW hn hp
  have h1 : (headSpec ws rm).pre.before a A.U = true := atoms_intro fun w hw => hws w hw _ _ X.warmed
  have h2 : (Cond.codeWith y bytes maxL ret hh).before a A.U = true := hws _ hcode _ _ X.warmed
  have h3 : (Cond.initialized y.cls).before a A.U = true := hinit _ _ X.warmed
  have h4 : A.cells + (headSpec ws rm).room.cells ≤ R.cells := by rw [show (headSpec ws rm).room.cells = mc from hrc]; exact hp.1
  have h5 : A.slots + (headSpec ws rm).room.slots ≤ R.slots := by rw [show (headSpec ws rm).room.slots = ms from hrs]; exact hp.2.1
  have hPc : Pc a (A.U.calling g mk a) := hblind _ _ _ _ hp.2.2
  obtain ⟨U, Ls, c0, s0⟩ := A
  dsimp only [Pt.U, Pt.locs, Pt.cells, Pt.slots] at h1 h2 h3 h4 h5 X hn hPc ⊢
  obtain ⟨m9, methY, cY, hn9, hmY, hcY, -, hlY, -⟩ := Cond.codeWith_spec h2
  cases Option.some.inj (hn9.symm.trans hn)
  obtain ⟨kY, hkY, -⟩ := className_of_methodNamed hn
  have hinitY : kY.init = .initialized := Cond.initialized_spec (findClass_of_methodNamed hn) hkY h3
  have h : At U g.method c below := by rw [hg]; exact X.here
  have hlocals9 : W9 + (maxL + 11) + (headSpec ws rm).room.locals ≤ R.locals := hlocals
  have happ : (headSpec ws rm).appliesLoose y e.platform (U.calling g mk a) = true :=
    Spec.appliesLoose_calling (g := g) h hdg hn hkY hinitY
      (X.room_calling (g := g) (R' := (headSpec ws rm).room) hsize hmY hcY hframes (by rw [hlY]; omega) h4 h5) h1
  obtain ⟨mid, hmid⟩ := h.above
  have hfr : (U.setTop g).frames = (.java g :: mid) ++ below := by rw [State.frames_setTop' g h.top, hmid]; rfl
  obtain ⟨o, s₂, hsteps, -, hend, hq⟩ := Steps.callFree hM p X.admits X.cas X.clock (acts := []) hfr happ hPc trivial
  have hq' : vx_Q Qc XC mc ms free a (U.calling g mk a) o s₂ := hq
  rw [State.frames_setTop' g h.top] at hend
  obtain ⟨g₀, hg0⟩ := Option.isSome_iff_exists.mp h.top
  obtain ⟨r, hr⟩ := State.topJava?_eq_some.mp hg0
  have hr' : (({ U with heap := s₂.heap, slotsUsed := s₂.slotsUsed } : State).setVm s₂.vm).frames = .java g₀ :: r := hr
  rcases hq' with ⟨hqc, L, hfe, hL⟩ | ⟨q, rfl, E, ce, L, hx, hce, hcv, hcl, hW₂, hsm, hL⟩
  · obtain ⟨⟨v, rfl⟩, hW₂, e2, q2, q3, q4, q5, q6⟩ := id hfe
    have e3 : s₂ = ({ (U.calling g mk a).setFrames s₂.frames with heap := s₂.heap, slotsUsed := s₂.slotsUsed } : State).setVm s₂.vm := by
      have : s₂ = ({ s₂ with vm := (U.calling g mk a).vm } : State).setVm s₂.vm := rfl
      rw [e2] at this
      exact this
    obtain ⟨c₂, i₂, len₂, hc₂, hd₂, hf₂⟩ := hend
    have hW' : U.WarmedH s₂.vm := hW₂
    have hcc : c₂ = c := by
      have h1 : s₂.code? g.method = U.code? g.method := by
        rw [State.code?_eq, State.code?_eq, hW'.alike.method?]
      exact Option.some.inj (hc₂.symm.trans (h1.trans h.code))
    subst hcc
    have hlen : len₂ = len := by rw [hdg] at hd₂; cases hd₂; rfl
    subst hlen
    have hs₂ : s₂ = (({ U with heap := s₂.heap, slotsUsed := s₂.slotsUsed } : State).setVm s₂.vm).setTop { g with pc := g.pc + len₂, stack := v.toList ++ g.stack } := by
      refine e3.trans ?_
      rw [hf₂, State.calling_eq h.top, State.setFrames_setFrames, State.setTop_of_frames _ hr', hr]
      rfl
    have hsame : U.sameButNew ({ U with heap := s₂.heap, slotsUsed := s₂.slotsUsed } : State) L mc ms := by
      refine ⟨?_, q2, q3, q4, q5, q6⟩
      obtain ⟨t, ht, -⟩ := State.frames_cons hr
      show ({ U with heap := s₂.heap, slotsUsed := s₂.slotsUsed } : State) = { U.setFrames U.frames with heap := s₂.heap, slotsUsed := s₂.slotsUsed }
      rw [State.setFrames_self ht]
    subst hg
    refine Or.inl ⟨v, ⟨(({ U with heap := s₂.heap, slotsUsed := s₂.slotsUsed } : State).setVm s₂.vm), Ls ++ L, c0 + mc, s0 + ms⟩,
      ⟨X.admits, X.cas, X.clock, X.frames, X.room, X.hears, X.method, X.code, (X.here.setHeapUsed s₂.heap s₂.slotsUsed).setVm hW'.alike, X.tail, State.WarmedH.trans X.warmed hW', X.limits, X.bytes, X.same.trans (hsame.setVm s.vm)⟩,
      ⟨g, mk, s₂, L, rfl, rfl, hqc, rfl, hL, rfl, rfl⟩, ?_⟩
    show Steps p.tables e below _ ((({ U with heap := s₂.heap, slotsUsed := s₂.slotsUsed } : State).setVm s₂.vm).setTop { g with pc := g.pc + len₂, stack := v.toList ++ g.stack })
    rw [← hs₂]
    exact hsteps
  · obtain ⟨e2, q2, q3, q4, q5, q6⟩ := id hsm
    have e3 : s₂ = ({ (U.calling g mk a).setFrames s₂.frames with heap := s₂.heap, slotsUsed := s₂.slotsUsed } : State).setVm s₂.vm := by
      have : s₂ = ({ s₂ with vm := (U.calling g mk a).vm } : State).setVm s₂.vm := rfl
      rw [e2] at this
      exact this
    have hf₂ : s₂.frames = .throwing q :: .java g :: U.frames.tail := hend
    have hW' : U.WarmedH s₂.vm := hW₂
    have hs₂ : s₂ = ((({ U with heap := s₂.heap, slotsUsed := s₂.slotsUsed } : State).setVm s₂.vm).setTop g).pushFrame (.throwing q) := by
      refine e3.trans ?_
      rw [hf₂, State.calling_eq h.top, State.setFrames_setFrames, State.pushFrame, State.frames_setTop _ hr', State.setTop_of_frames _ hr', State.setFrames_setFrames, hr]
      rfl
    have hsame : U.sameButNew ({ U with heap := s₂.heap, slotsUsed := s₂.slotsUsed } : State) L mc ms := by
      refine ⟨?_, q2, q3, q4, q5, q6⟩
      obtain ⟨t, ht, -⟩ := State.frames_cons hr
      show ({ U with heap := s₂.heap, slotsUsed := s₂.slotsUsed } : State) = { U.setFrames U.frames with heap := s₂.heap, slotsUsed := s₂.slotsUsed }
      rw [State.setFrames_self ht]
    subst hg
    refine Or.inr ⟨q, ⟨(({ U with heap := s₂.heap, slotsUsed := s₂.slotsUsed } : State).setVm s₂.vm), Ls ++ L, c0 + mc, s0 + ms⟩,
      ⟨X.admits, X.cas, X.clock, X.frames, X.room, X.hears, X.method, X.code, (X.here.setHeapUsed s₂.heap s₂.slotsUsed).setVm hW'.alike, X.tail, State.WarmedH.trans X.warmed hW', X.limits, X.bytes, X.same.trans (hsame.setVm s.vm)⟩,
      ⟨g, mk, s₂, L, E, ce, rfl, rfl, hx, hce, hcv, hcl, rfl, hL, rfl, rfl⟩, ?_⟩
    show Steps p.tables e below _ (((({ U with heap := s₂.heap, slotsUsed := s₂.slotsUsed } : State).setVm s₂.vm).setTop g).pushFrame (.throwing q))
    rw [← hs₂]
    exact hsteps
end
variable {p : Program} {l : Launch} {e : Env} {R : Room} {s : State} {m : MethodId} {args : Array Value} {below : List Frame} {meth : Method} {c : Code} {T : State} {H : Heap} {locs : List Loc} {cells slots : Nat}
theorem vx_callVX (X : Stand p l e R s m args below meth c T locs cells slots) (hexec : p.tables.exec = Jvm.exec) {own C : String} {index : Nat} {y : MethodName} {bytes : ByteArray} {maxL : Nat} {ret : Option FieldType} {hh : List (Nat × Nat × Nat × Nat)}
    (hown : s.vm.findClass own = some m.cls) (hlink : (Cond.methodLink own index y).before args s = true) (hinst : (Cond.instanceMethod y).before args s = true) (hsel : (Cond.selects C y y).before args s = true)
    (hcode : (Cond.codeWith y bytes maxL ret hh).before args s = true) (hy : y.cls ≠ "java/lang/invoke/MethodHandle" ∧ y.cls ≠ "java/lang/invoke/VarHandle")
    {W9 : Nat} {Pre : Pt → Array Value → Prop} {Post : Pt → Array Value → Option Value → Pt → Prop} {PostX : Pt → Array Value → Addr → Pt → Prop} (hK : vx_Back l R p e below s args y 3 W9 Pre Post PostX)
    {b : Addr} {cellB : Cell} (hcell : T.heap[b]? = some cellB) (hobj : cellB.vm.isStatics = false) (hcls : s.vm.findClass C = some cellB.cls)
    {g : JFrame} (hg : g.method = m) (hsize : g.locals.size = c.maxLocals) {argsL rest : List Value} (hlen : ∀ sig, parseMethodDescriptor y.desc = some sig → argsL.length = sig.parameters.length)
    (hstack : g.stack = argsL.reverse ++ .ref b :: rest) (hW : 2 * g.monitorRoom + (rest.map fun v => v.category).sum ≤ W9) (hdg : decode c.code g.pc = .ok (.invokevirtual index, 3))
    (hpre : ∀ vm₁, s.WarmedH vm₁ → Pre ⟨T.setVm vm₁, locs, cells, slots⟩ (Value.ref b :: argsL).toArray) :
    (∃ (v : Option Value) (vm₁ : Vm) (B : Pt), s.WarmedH vm₁ ∧ Stand p l e R s m args below meth c B.U B.locs B.cells B.slots ∧ Post ⟨T.setVm vm₁, locs, cells, slots⟩ (Value.ref b :: argsL).toArray v B ∧
      ∀ target, Steps p.tables e below (B.U.setTop { g with pc := g.pc + 3, stack := v.toList ++ rest }) target → Steps p.tables e below (T.setTop g) target) ∨
    (∃ (q : Addr) (vm₁ : Vm) (B : Pt), s.WarmedH vm₁ ∧ Stand p l e R s m args below meth c B.U B.locs B.cells B.slots ∧ PostX ⟨T.setVm vm₁, locs, cells, slots⟩ (Value.ref b :: argsL).toArray q B ∧
      Steps p.tables e below (T.setTop g) ((B.U.setTop { g with stack := rest }).pushFrame (.throwing q))) := by
  obtain ⟨mk, methM, hnamed, hmethM, hstM, habM⟩ := Cond.instanceMethod_spec hinst
  obtain ⟨m8, methM', cM, hn8, hmethM', -, -, -, -, -, -, hsigM⟩ := Cond.codeWith_spec hcode
  cases Option.some.inj (hn8.symm.trans hnamed)
  cases hmethM.symm.trans hmethM'
  obtain ⟨c2, r2, m2, q1, q2, q3, q4, kP, hkP, hkPi⟩ := Cond.selects_spec hsel
  cases hcls.symm.trans q1
  cases (State.methodFound?_of_named hnamed hy).symm.trans q2
  cases hnamed.symm.trans q3
  have hselP : selectMethod e.platform s.vm cellB.cls mk = .method mk := by rw [Launch.admits_selectMethod X.admits]; exact q4
  obtain ⟨vm₁, X₁, hstep₁⟩ := X.invokevirtual hexec hown hlink hnamed hmethM hstM hkP hkPi hy (a := b) (cell := cellB) hcell
    (fun z h => by rw [h] at hobj; cases hobj) hselP hmethM habM hkP hkPi (g := g) hg (argsL := argsL) (rest := rest) (hlen _ hsigM) hstack hdg
  rcases hK m meth c ⟨T.setVm vm₁, locs, cells, slots⟩ { g with stack := rest } (.invokevirtual index) mk (Value.ref b :: argsL).toArray X₁ hg hsize hdg hW (X₁.named hnamed) (hpre vm₁ X₁.warmed) with ⟨v, B, X', hpost, hsteps⟩ | ⟨q, B, X', hpost, hsteps⟩
  · exact Or.inl ⟨v, vm₁, B, X₁.warmed, X', hpost, fun target h => hstep₁ _ fun acts => by rw [doInvoke_state]; exact hsteps.trans h⟩
  · exact Or.inr ⟨q, vm₁, B, X₁.warmed, X', hpost, hstep₁ _ fun acts => by rw [doInvoke_state]; exact hsteps⟩
theorem vx_callSX (X : Stand p l e R s m args below meth c T locs cells slots) (hexec : p.tables.exec = Jvm.exec) {own : String} {index : Nat} {y : MethodName} {bytes : ByteArray} {maxL : Nat} {ret : Option FieldType} {hh : List (Nat × Nat × Nat × Nat)}
    (hown : s.vm.findClass own = some m.cls) (hlink : (Cond.methodLink own index y).before args s = true) (hstat : (Cond.static y).before args s = true) (hinit : (Cond.initialized y.cls).before args s = true)
    (hcode : (Cond.codeWith y bytes maxL ret hh).before args s = true) (hy : y.cls ≠ "java/lang/invoke/MethodHandle" ∧ y.cls ≠ "java/lang/invoke/VarHandle")
    {W9 : Nat} {Pre : Pt → Array Value → Prop} {Post : Pt → Array Value → Option Value → Pt → Prop} {PostX : Pt → Array Value → Addr → Pt → Prop} (hK : vx_Back l R p e below s args y 3 W9 Pre Post PostX)
    {g : JFrame} (hg : g.method = m) (hsize : g.locals.size = c.maxLocals) {argsL rest : List Value} (hlen : ∀ sig, parseMethodDescriptor y.desc = some sig → argsL.length = sig.parameters.length)
    (hstack : g.stack = argsL.reverse ++ rest) (hW : 2 * g.monitorRoom + (rest.map fun v => v.category).sum ≤ W9) (hdg : decode c.code g.pc = .ok (.invokestatic index, 3))
    (hpre : ∀ vm₁, s.WarmedH vm₁ → Pre ⟨T.setVm vm₁, locs, cells, slots⟩ argsL.toArray) :
    (∃ (v : Option Value) (vm₁ : Vm) (B : Pt), s.WarmedH vm₁ ∧ Stand p l e R s m args below meth c B.U B.locs B.cells B.slots ∧ Post ⟨T.setVm vm₁, locs, cells, slots⟩ argsL.toArray v B ∧
      ∀ target, Steps p.tables e below (B.U.setTop { g with pc := g.pc + 3, stack := v.toList ++ rest }) target → Steps p.tables e below (T.setTop g) target) ∨
    (∃ (q : Addr) (vm₁ : Vm) (B : Pt), s.WarmedH vm₁ ∧ Stand p l e R s m args below meth c B.U B.locs B.cells B.slots ∧ PostX ⟨T.setVm vm₁, locs, cells, slots⟩ argsL.toArray q B ∧
      Steps p.tables e below (T.setTop g) ((B.U.setTop { g with stack := rest }).pushFrame (.throwing q))) := by
  obtain ⟨mk, methM, cM, hnamed, hmethM, -, -, -, -, -, -, hsigM⟩ := Cond.codeWith_spec hcode
  have hstatic : methM.isStatic = true := Cond.static_spec hnamed hmethM hstat
  obtain ⟨kP, hkP, -⟩ := className_of_methodNamed hnamed
  have hinitP : kP.init = .initialized := Cond.initialized_spec (findClass_of_methodNamed hnamed) hkP hinit
  obtain ⟨vm₁, X₁, hstep₁⟩ := X.invokestatic hexec hown hlink hnamed hmethM hstatic hkP hinitP hy (g := g) hg (argsL := argsL) (rest := rest) (hlen _ hsigM) hstack hdg
  rcases hK m meth c ⟨T.setVm vm₁, locs, cells, slots⟩ { g with stack := rest } (.invokestatic index) mk argsL.toArray X₁ hg hsize hdg hW (X₁.named hnamed) (hpre vm₁ X₁.warmed) with ⟨v, B, X', hpost, hsteps⟩ | ⟨q, B, X', hpost, hsteps⟩
  · exact Or.inl ⟨v, vm₁, B, X₁.warmed, X', hpost, fun target h => hstep₁ _ fun acts => by rw [doInvoke_state]; exact hsteps.trans h⟩
  · exact Or.inr ⟨q, vm₁, B, X₁.warmed, X', hpost, hstep₁ _ fun acts => by rw [doInvoke_state]; exact hsteps⟩
theorem vx_callVW (X : Stand p l e R s m args below meth c T locs cells slots) (hexec : p.tables.exec = Jvm.exec) {own C : String} {index : Nat} {y : MethodName} {bytes : ByteArray} {maxL : Nat} {ret : Option FieldType} {hh : List (Nat × Nat × Nat × Nat)}
    (hown : s.vm.findClass own = some m.cls) (hlink : (Cond.methodLink own index y).before args s = true) (hinst : (Cond.instanceMethod y).before args s = true) (hsel : (Cond.selects C y y).before args s = true)
    (hcode : (Cond.codeWith y bytes maxL ret hh).before args s = true) (hy : y.cls ≠ "java/lang/invoke/MethodHandle" ∧ y.cls ≠ "java/lang/invoke/VarHandle")
    {W9 : Nat} {Pre : Pt → Array Value → Prop} {Post : Pt → Array Value → Option Value → Pt → Prop} (hK : Back l R p e below s args y 3 W9 Pre Post)
    {b : Addr} {cellB : Cell} (hcell : T.heap[b]? = some cellB) (hobj : cellB.vm.isStatics = false) (hcls : s.vm.findClass C = some cellB.cls)
    {g : JFrame} (hg : g.method = m) (hsize : g.locals.size = c.maxLocals) {argsL rest : List Value} (hlen : ∀ sig, parseMethodDescriptor y.desc = some sig → argsL.length = sig.parameters.length)
    (hstack : g.stack = argsL.reverse ++ .ref b :: rest) (hW : 2 * g.monitorRoom + (rest.map fun v => v.category).sum ≤ W9) (hdg : decode c.code g.pc = .ok (.invokevirtual index, 3))
    (hpre : ∀ vm₁, s.WarmedH vm₁ → Pre ⟨T.setVm vm₁, locs, cells, slots⟩ (Value.ref b :: argsL).toArray) :
    ∃ (v : Option Value) (vm₁ : Vm) (B : Pt), s.WarmedH vm₁ ∧ Stand p l e R s m args below meth c B.U B.locs B.cells B.slots ∧ Post ⟨T.setVm vm₁, locs, cells, slots⟩ (Value.ref b :: argsL).toArray v B ∧
      ∀ target, Steps p.tables e below (B.U.setTop { g with pc := g.pc + 3, stack := v.toList ++ rest }) target → Steps p.tables e below (T.setTop g) target := by
  obtain ⟨mk, methM, hnamed, hmethM, hstM, habM⟩ := Cond.instanceMethod_spec hinst
  obtain ⟨m8, methM', cM, hn8, hmethM', -, -, -, -, -, -, hsigM⟩ := Cond.codeWith_spec hcode
  cases Option.some.inj (hn8.symm.trans hnamed)
  cases hmethM.symm.trans hmethM'
  obtain ⟨c2, r2, m2, q1, q2, q3, q4, kP, hkP, hkPi⟩ := Cond.selects_spec hsel
  cases hcls.symm.trans q1
  cases (State.methodFound?_of_named hnamed hy).symm.trans q2
  cases hnamed.symm.trans q3
  have hselP : selectMethod e.platform s.vm cellB.cls mk = .method mk := by rw [Launch.admits_selectMethod X.admits]; exact q4
  obtain ⟨vm₁, X₁, hstep₁⟩ := X.invokevirtual hexec hown hlink hnamed hmethM hstM hkP hkPi hy (a := b) (cell := cellB) hcell
    (fun z h => by rw [h] at hobj; cases hobj) hselP hmethM habM hkP hkPi (g := g) hg (argsL := argsL) (rest := rest) (hlen _ hsigM) hstack hdg
  obtain ⟨v, B, X', hpost, hsteps⟩ := hK m meth c ⟨T.setVm vm₁, locs, cells, slots⟩ { g with stack := rest } (.invokevirtual index) mk (Value.ref b :: argsL).toArray X₁ hg hsize hdg hW (X₁.named hnamed) (hpre vm₁ X₁.warmed)
  exact ⟨v, vm₁, B, X₁.warmed, X', hpost, fun target h => hstep₁ _ fun acts => by rw [doInvoke_state]; exact hsteps.trans h⟩
abbrev vx_CVW (R : Room) (s : State) (args : Array Value) (own C : String) (index : Nat) (y : MethodName) (bytes : ByteArray) (maxL : Nat) (ret : Option FieldType) (hh : List (Nat × Nat × Nat × Nat)) (ws : List Cond) (rm : Room) (mc ms n : Nat) : Prop :=
  (rm.cells = mc ∧ rm.slots = ms ∧ rm.frames + 1 ≤ R.frames ∧ 8 + (maxL + 11) + rm.locals ≤ R.locals ∧ (∀ w ∈ ws, ∀ (a' : Array Value) (U : State), s.WarmedH U.vm → w.before a' U = true) ∧ Cond.codeWith y bytes maxL ret hh ∈ ws) ∧
  (Cond.codeWith y bytes maxL ret hh).before args s = true ∧ (Cond.initialized y.cls).before args s = true ∧ (y.cls ≠ "java/lang/invoke/MethodHandle" ∧ y.cls ≠ "java/lang/invoke/VarHandle") ∧
  (∀ sig, parseMethodDescriptor y.desc = some sig → n = sig.parameters.length) ∧ (Cond.methodLink own index y).before args s = true ∧ (Cond.instanceMethod y).before args s = true ∧ (Cond.selects C y y).before args s = true
theorem vx_cwVW {own C : String} {index maxL mc ms : Nat} {y : MethodName} {bytes : ByteArray} {ret : Option FieldType} {hh : List (Nat × Nat × Nat × Nat)} {Ts ws ws' : List Cond} {rm : Room} (n : Nat) (ht : ∀ w ∈ Ts, w.before args s = true) (hT : GoodIn Ts (wsV own index C y ws)) (hw : ws = Cond.codeWith y bytes maxL ret hh :: ws') (hrc : rm.cells = mc) (hrs : rm.slots = ms)
    (hd : y.cls = C ∧ y.cls ≠ "java/lang/invoke/MethodHandle" ∧ y.cls ≠ "java/lang/invoke/VarHandle" ∧ (parseMethodDescriptor y.desc).map (fun d => d.parameters.length) = some n) (hR : rm.frames + 1 ≤ R.frames ∧ 8 + (maxL + 11) + rm.locals ≤ R.locals) :
    vx_CVW R s args own C index y bytes maxL ret hh ws rm mc ms n := by
  obtain ⟨hC, hd⟩ := hd
  subst hC
  have ok : ∀ w ∈ wsV own index y.cls y ws, w.before args s = true := fun w h => ht w (hT w h).1
  have hG : GoodIn Ts ws := fun w h => hT w (by unfold wsV; exact List.mem_append_right _ h)
  have hc : Cond.codeWith y bytes maxL ret hh ∈ ws := by rw [hw]; exact List.mem_cons_self
  refine ⟨⟨hrc, hrs, hR.1, hR.2, pay_in ht hG, hc⟩, ht _ (hG _ hc).1, ok _ (by simp [wsV]), ⟨hd.1, hd.2.1⟩, fun sig h => ?_, ok _ (by simp [wsV]), ok _ (by simp [wsV]), ok _ (by simp [wsV])⟩
  have h2 := hd.2.2
  rw [h] at h2
  exact (Option.some.inj h2).symm
theorem vx_runVW {y : MethodName} {bytes cc : ByteArray} {maxL nL mc ms n index : Nat} {ret : Option FieldType} {hh : List (Nat × Nat × Nat × Nat)} {ws : List Cond} {rm : Room} {Pc : Array Value → State → Prop} {Qc : Array Value → State → Outcome → State → Prop} {free : Addr → Prop} {Ts : List Cond} {own C : String} {b : Addr} {As rest : List Value} {g : JFrame}
    (S : CallFix p m c cc nL s args Ts own) (hM : Met l y ws rm Pc Qc mc ms free) (cw : vx_CVW R s args own C index y bytes maxL ret hh ws rm mc ms n) (hp : PreV s H C b Pc As)
    (hg : g.method = m) (hn : As.length = n) (hsize : g.locals.size = nL) (hstack : g.stack = As.reverse ++ .ref b :: rest) (hW : 2 * g.monitorRoom + (rest.map fun v => v.category).sum ≤ 8) (hdg : decode cc g.pc = .ok (.invokevirtual index, 3)) (hf : cells + mc ≤ R.cells ∧ slots + ms ≤ R.slots) :
    va_Run p l e R s m args below meth c H locs cells slots mc ms g rest (Qc (Value.ref b :: As).toArray) free := by
  obtain ⟨⟨hrc, hrs, hfr, hlo, hws, hcw⟩, hcode, hini, hy, hlen, hl, hin, hse⟩ := cw
  have hK : Back l R p e below s args y 3 8 (PreOf R mc ms Pc) (PostOf Qc mc ms free) := va_backW (hh := hh) (bytes := bytes) (maxL := maxL) (ret := ret) hM hp.1 hrc hrs hfr hlo hws hcw (fun a' U hW => word_at hW (Or.inl (by first | rfl | simp [Cond.onTables, Cond.keeps, Cond.steady])) hini)
  obtain ⟨hx, hb, hml, ho, -⟩ := S
  obtain ⟨-, ⟨cellB, hcB, hoB, hclB⟩, hPc⟩ := hp
  intro T hT X
  obtain ⟨v, vm₁, ⟨U', l2, c2, s2⟩, hW₁, X', ⟨g', mk, t, L, e1, e2, hq, h1, hL, h2, h3⟩, st⟩ := vx_callVW X hx (C := C) (hh := hh) (bytes := bytes) (maxL := maxL) (ret := ret) ho hl hin hse hcode hy hK (by rw [hT]; exact hcB) hoB hclB hg (hsize.trans hml.symm) (argsL := As) (rest := rest) (fun sig h => hn.trans (hlen sig h)) hstack hW (by rw [hb]; exact hdg)
    (fun vm₁ hW₁ => ⟨hf.1, hf.2, hPc (T.setVm vm₁) hT hW₁⟩)
  dsimp only [Pt.U, Pt.locs, Pt.cells, Pt.slots] at X' e1 e2 h1 h2 h3 st
  subst h1; subst h2; subst h3
  exact ⟨v, (T.setVm vm₁).calling g' mk (Value.ref b :: As).toArray, t, U', L, hT, X', hL, e1, e2, hq, st⟩
section
variable {y : MethodName} {bytes cc : ByteArray} {maxL nL mc ms n index : Nat} {ret : Option FieldType} {ws : List Cond} {rm : Room} {Pc : Array Value → State → Prop} {Qc : Array Value → State → Outcome → State → Prop} {XC : String → State → State → Prop} {free : Addr → Prop} {Ts : List Cond} {own C : String} {b : Addr} {As rest : List Value} {g : JFrame}
theorem vx_runVX {hh : List (Nat × Nat × Nat × Nat)} (S : CallFix p m c cc nL s args Ts own) (hM : vx_Met l y ws rm Pc Qc XC mc ms free) (cw : vx_CVW R s args own C index y bytes maxL ret hh ws rm mc ms n) (hp : PreV s H C b Pc As)
    (hg : g.method = m) (hn : As.length = n) (hsize : g.locals.size = nL) (hstack : g.stack = As.reverse ++ .ref b :: rest) (hW : 2 * g.monitorRoom + (rest.map fun v => v.category).sum ≤ 8) (hdg : decode cc g.pc = .ok (.invokevirtual index, 3)) (hf : cells + mc ≤ R.cells ∧ slots + ms ≤ R.slots) :
    vx_Run p l e R s m args below meth c H locs cells slots mc ms g rest (Qc (Value.ref b :: As).toArray) XC free := by
  obtain ⟨⟨hrc, hrs, hfr, hlo, hws, hcw⟩, hcode, hini, hy, hlen, hl, hin, hse⟩ := cw
  have hK : vx_Back l R p e below s args y 3 8 (PreOf R mc ms Pc) (PostOf Qc mc ms free) (vx_Post XC mc ms free) := vx_backW (hh := hh) (bytes := bytes) (maxL := maxL) (ret := ret) hM hp.1 hrc hrs hfr hlo hws hcw (fun a' U hW => word_at hW (Or.inl (by first | rfl | simp [Cond.onTables, Cond.keeps, Cond.steady])) hini)
  obtain ⟨hx, hb, hml, ho, -⟩ := S
  obtain ⟨-, ⟨cellB, hcB, hoB, hclB⟩, hPc⟩ := hp
  intro T hT X
  rcases vx_callVX X hx (C := C) (hh := hh) (bytes := bytes) (maxL := maxL) (ret := ret) ho hl hin hse hcode hy hK (by rw [hT]; exact hcB) hoB hclB hg (hsize.trans hml.symm) (argsL := As) (rest := rest) (fun sig h => hn.trans (hlen sig h)) hstack hW (by rw [hb]; exact hdg)
    (fun vm₁ hW₁ => ⟨hf.1, hf.2, hPc (T.setVm vm₁) hT hW₁⟩) with ⟨v, vm₁, ⟨U', l2, c2, s2⟩, hW₁, X', ⟨g', mk, t, L, e1, e2, hq, h1, hL, h2, h3⟩, st⟩ | ⟨q, vm₁, ⟨U', l2, c2, s2⟩, hW₁, X', ⟨g', mk, t, L, E, ce, e1, e2, hq, hce, hcv, hcl, h1, hL, h2, h3⟩, st⟩
  · dsimp only [Pt.U, Pt.locs, Pt.cells, Pt.slots] at X' e1 e2 h1 h2 h3 st
    subst h1; subst h2; subst h3
    exact Or.inl ⟨v, (T.setVm vm₁).calling g' mk (Value.ref b :: As).toArray, t, U', L, hT, X', hL, e1, e2, hq, st⟩
  · dsimp only [Pt.U, Pt.locs, Pt.cells, Pt.slots] at X' e1 e2 h1 h2 h3 st hcl
    subst h1; subst h2; subst h3
    exact Or.inr ⟨q, (T.setVm vm₁).calling g' mk (Value.ref b :: As).toArray, t, U', L, E, ce, hT, X', hL, e1, e2, hq, hce, hcv, vx_cls hW₁ hcl, st⟩
theorem vx_runSX {hh : List (Nat × Nat × Nat × Nat)} (S : CallFix p m c cc nL s args Ts own) (hM : vx_Met l y ws rm Pc Qc XC mc ms free) (cw : vx_CSW R s args own index y bytes maxL ret hh ws rm mc ms n) (hp : PreS s H Pc As)
    (hg : g.method = m) (hn : As.length = n) (hsize : g.locals.size = nL) (hstack : g.stack = As.reverse ++ rest) (hW : 2 * g.monitorRoom + (rest.map fun v => v.category).sum ≤ 8) (hdg : decode cc g.pc = .ok (.invokestatic index, 3)) (hf : cells + mc ≤ R.cells ∧ slots + ms ≤ R.slots) :
    vx_Run p l e R s m args below meth c H locs cells slots mc ms g rest (Qc As.toArray) XC free := by
  obtain ⟨⟨hrc, hrs, hfr, hlo, hws, hcw⟩, hcode, hini, hy, hlen, hl, hstt⟩ := cw
  have hK : vx_Back l R p e below s args y 3 8 (PreOf R mc ms Pc) (PostOf Qc mc ms free) (vx_Post XC mc ms free) := vx_backW (hh := hh) (bytes := bytes) (maxL := maxL) (ret := ret) hM hp.1 hrc hrs hfr hlo hws hcw (fun a' U hW => word_at hW (Or.inl (by first | rfl | simp [Cond.onTables, Cond.keeps, Cond.steady])) hini)
  obtain ⟨hx, hb, hml, ho, -⟩ := S
  intro T hT X
  rcases vx_callSX X hx (hh := hh) (bytes := bytes) (maxL := maxL) (ret := ret) ho hl hstt hini hcode hy hK hg (hsize.trans hml.symm) (argsL := As) (rest := rest) (fun sig h => hn.trans (hlen sig h)) hstack hW (by rw [hb]; exact hdg)
    (fun vm₁ hW₁ => ⟨hf.1, hf.2, hp.2 (T.setVm vm₁) hT hW₁⟩) with ⟨v, vm₁, ⟨U', l2, c2, s2⟩, hW₁, X', ⟨g', mk, t, L, e1, e2, hq, h1, hL, h2, h3⟩, st⟩ | ⟨q, vm₁, ⟨U', l2, c2, s2⟩, hW₁, X', ⟨g', mk, t, L, E, ce, e1, e2, hq, hce, hcv, hcl, h1, hL, h2, h3⟩, st⟩
  · dsimp only [Pt.U, Pt.locs, Pt.cells, Pt.slots] at X' e1 e2 h1 h2 h3 st
    subst h1; subst h2; subst h3
    exact Or.inl ⟨v, (T.setVm vm₁).calling g' mk As.toArray, t, U', L, hT, X', hL, e1, e2, hq, st⟩
  · dsimp only [Pt.U, Pt.locs, Pt.cells, Pt.slots] at X' e1 e2 h1 h2 h3 st hcl
    subst h1; subst h2; subst h3
    exact Or.inr ⟨q, (T.setVm vm₁).calling g' mk As.toArray, t, U', L, E, ce, hT, X', hL, e1, e2, hq, hce, hcv, vx_cls hW₁ hcl, st⟩
end
end VXH
theorem vx_ofWH {l : Launch} {y : MethodName} {ws ws' : List Cond} {rm : Room} {Pc : Array Value → State → Prop} {Qc : Array Value → State → Outcome → State → Prop} {XC : String → State → State → Prop} {mc ms : Nat} {free : Addr → Prop} {cc : ByteArray} {maxL : Nat} {ret : Option FieldType} {hh : List (Nat × Nat × Nat × Nat)}
    (hy : plainName y.cls = true) (hw : ws = Cond.codeWith y cc maxL ret hh :: ws')
    (body : ∀ p e s m args below meth c s₁, BodyLoose p l y (headSpec ws rm) cc maxL ret e s m args below meth c s₁ → c.maxLocals = maxL → Pc args s →
      W p l e (headSpec ws rm).room s m args below meth c s.heap [] 0 0 (vx_MQ below Qc XC args s mc ms free) (entryFrame m args maxL)) : vx_Met l y ws rm Pc Qc XC mc ms free := by
  refine MetFree.of_bodyS (code := cc) (maxLocals := maxL) (ret := ret) hy ?_ ?_
  · intro args s m h hn
    obtain ⟨m9, meth, c, hn9, h1, h2, h3, h4, -, h5, h6, -⟩ := Cond.codeWith_spec (atoms_spec (ws := ws) h _ (by rw [hw]; exact List.mem_cons_self))
    cases hn.symm.trans hn9
    exact ⟨meth, c, h1, h2, h3, h4, h5, h6⟩
  · intro p e s m args below meth c s₁ B hml hP _
    have hh0 : s₁.heap = s.heap := by rw [B.state]; rfl
    obtain ⟨t, a1, o, b1, b2, b3⟩ := body p e s m args below meth c s₁ B hml hP s₁ hh0 (Stand.of_body B)
    exact ⟨t, o, a1, b1, b2, b3⟩
/-! ===== END ===== -/
end
section
def RX0 : String := "ImpactPlate$Accounts"
def TX0 : u_T := fun k => match k with
  | 0 => ("ImpactPlate$Accounts", "fateCounts", "[I", true)
  | 1 => ("ImpactPlate$Accounts", "rainSum", "J", false)
  | 2 => ("ImpactPlate$Accounts", "lastDropTick", "I", false)
  | 3 => ("ImpactPlate$Accounts", "fates", "LImpactPlate$LastNumbers;", true)
  | 4 => ("ImpactPlate$Accounts", "sizes", "LImpactPlate$LastNumbers;", true)
  | _ => ("ImpactPlate$Accounts", "gaps", "LImpactPlate$LastNumbers;", true)
def tyX0 : Nat → FieldType := fun k => match k with
  | 0 => .array .int
  | 1 => .long
  | 2 => .int
  | 3 => .object "ImpactPlate$LastNumbers"
  | 4 => .object "ImpactPlate$LastNumbers"
  | _ => .object "ImpactPlate$LastNumbers"
theorem nmX0 : ∀ a, a < 6 → ∀ b, b < 6 → a ≠ b → (TX0 a).2.1 ≠ (TX0 b).2.1 := by decide +kernel
theorem tyX0_ok : ∀ k, k < 6 → parseFieldDescriptor (TX0 k).2.2.1 = some (tyX0 k) := by decide +kernel
abbrev cX0_init : ByteArray := prog_2_method_1_code
def yX0_init : MethodName := ⟨RX0, "<init>", "()V"⟩
abbrev cX0_enter : ByteArray := prog_2_method_2_code
def yX0_enter : MethodName := ⟨RX0, "enter", "(III)V"⟩
abbrev cX0_dropCount : ByteArray := prog_2_method_3_code
def yX0_dropCount : MethodName := ⟨RX0, "dropCount", "()I"⟩
abbrev cX0_countOf : ByteArray := prog_2_method_4_code
def yX0_countOf : MethodName := ⟨RX0, "countOf", "(I)I"⟩
abbrev cX0_rainOfRecord : ByteArray := prog_2_method_5_code
def yX0_rainOfRecord : MethodName := ⟨RX0, "rainOfRecord", "()J"⟩
abbrev cX0_copyFrom : ByteArray := prog_2_method_6_code
def yX0_copyFrom : MethodName := ⟨RX0, "copyFrom", "(LImpactPlate$Accounts;)V"⟩
def RX1 : String := "ImpactPlate$LastNumbers"
def TX1 : u_T := fun k => match k with
  | 0 => ("ImpactPlate$LastNumbers", "cells", "[I", true)
  | 1 => ("ImpactPlate$LastNumbers", "newest", "I", false)
  | _ => ("ImpactPlate$LastNumbers", "length", "I", false)
def tyX1 : Nat → FieldType := fun k => match k with
  | 0 => .array .int
  | 1 => .int
  | _ => .int
theorem nmX1 : ∀ a, a < 3 → ∀ b, b < 3 → a ≠ b → (TX1 a).2.1 ≠ (TX1 b).2.1 := by decide +kernel
theorem tyX1_ok : ∀ k, k < 3 → parseFieldDescriptor (TX1 k).2.2.1 = some (tyX1 k) := by decide +kernel
abbrev cX1_init : ByteArray := prog_3_method_1_code
def yX1_init : MethodName := ⟨RX1, "<init>", "(I)V"⟩
abbrev cX1_push : ByteArray := prog_3_method_2_code
def yX1_push : MethodName := ⟨RX1, "push", "(I)V"⟩
abbrev cX1_back : ByteArray := prog_3_method_3_code
def yX1_back : MethodName := ⟨RX1, "back", "(I)I"⟩
abbrev cX1_longestRunOf : ByteArray := prog_3_method_4_code
def yX1_longestRunOf : MethodName := ⟨RX1, "longestRunOf", "(I)I"⟩
abbrev cX1_placesOf : ByteArray := prog_3_method_5_code
def yX1_placesOf : MethodName := ⟨RX1, "placesOf", "(II)I"⟩
abbrev cX1_standsAt : ByteArray := prog_3_method_6_code
def yX1_standsAt : MethodName := ⟨RX1, "standsAt", "(III)Z"⟩
abbrev cX1_copyFrom : ByteArray := prog_3_method_7_code
def yX1_copyFrom : MethodName := ⟨RX1, "copyFrom", "(LImpactPlate$LastNumbers;)V"⟩
def RX2 : String := "ImpactPlate$Plate"
def TX2 : u_T := fun k => match k with
  | 0 => ("ImpactPlate$Plate", "tick", "I", false)
  | 1 => ("ImpactPlate$Plate", "settings", "[I", true)
  | 2 => ("ImpactPlate$Plate", "borders", "[I", true)
  | 3 => ("ImpactPlate$Plate", "rings", "Z", false)
  | 4 => ("ImpactPlate$Plate", "struckAt", "I", false)
  | 5 => ("ImpactPlate$Plate", "amplitude", "I", false)
  | 6 => ("ImpactPlate$Plate", "open", "Z", false)
  | 7 => ("ImpactPlate$Plate", "pulseDrops", "I", false)
  | 8 => ("ImpactPlate$Plate", "saturated", "Z", false)
  | 9 => ("ImpactPlate$Plate", "binPulses", "[I", true)
  | 10 => ("ImpactPlate$Plate", "binSaturated", "[I", true)
  | _ => ("ImpactPlate$Plate", "binDrops", "[I", true)
def tyX2 : Nat → FieldType := fun k => match k with
  | 0 => .int
  | 1 => .array .int
  | 2 => .array .int
  | 3 => .boolean
  | 4 => .int
  | 5 => .int
  | 6 => .boolean
  | 7 => .int
  | 8 => .boolean
  | 9 => .array .int
  | 10 => .array .int
  | _ => .array .int
theorem nmX2 : ∀ a, a < 12 → ∀ b, b < 12 → a ≠ b → (TX2 a).2.1 ≠ (TX2 b).2.1 := by decide +kernel
theorem tyX2_ok : ∀ k, k < 12 → parseFieldDescriptor (TX2 k).2.2.1 = some (tyX2 k) := by decide +kernel
abbrev cX2_init : ByteArray := prog_4_method_1_code
def yX2_init : MethodName := ⟨RX2, "<init>", "()V"⟩
abbrev cX2_strengthOf : ByteArray := prog_4_method_2_code
def yX2_strengthOf : MethodName := ⟨RX2, "strengthOf", "(I)I"⟩
abbrev cX2_levelAt : ByteArray := prog_4_method_3_code
def yX2_levelAt : MethodName := ⟨RX2, "levelAt", "(I)I"⟩
abbrev cX2_fateOf : ByteArray := prog_4_method_4_code
def yX2_fateOf : MethodName := ⟨RX2, "fateOf", "(II)I"⟩
abbrev cX2_receive : ByteArray := prog_4_method_5_code
def yX2_receive : MethodName := ⟨RX2, "receive", "(II)I"⟩
abbrev cX2_letPass : ByteArray := prog_4_method_6_code
def yX2_letPass : MethodName := ⟨RX2, "letPass", "(I)V"⟩
abbrev cX2_openPulse : ByteArray := prog_4_method_7_code
def yX2_openPulse : MethodName := ⟨RX2, "openPulse", "(I)V"⟩
abbrev cX2_strike : ByteArray := prog_4_method_8_code
def yX2_strike : MethodName := ⟨RX2, "strike", "(I)V"⟩
abbrev cX2_closePulse : ByteArray := prog_4_method_9_code
def yX2_closePulse : MethodName := ⟨RX2, "closePulse", "()V"⟩
abbrev cX2_binOf : ByteArray := prog_4_method_10_code
def yX2_binOf : MethodName := ⟨RX2, "binOf", "(I)I"⟩
abbrev cX2_lowerEnd : ByteArray := prog_4_method_11_code
def yX2_lowerEnd : MethodName := ⟨RX2, "lowerEnd", "(I)I"⟩
abbrev cX2_upperEnd : ByteArray := prog_4_method_12_code
def yX2_upperEnd : MethodName := ⟨RX2, "upperEnd", "(I)I"⟩
abbrev cX2_wouldAscend : ByteArray := prog_4_method_13_code
def yX2_wouldAscend : MethodName := ⟨RX2, "wouldAscend", "(II)Z"⟩
abbrev cX2_emptyBins : ByteArray := prog_4_method_14_code
def yX2_emptyBins : MethodName := ⟨RX2, "emptyBins", "()V"⟩
abbrev cX2_reckonedRain : ByteArray := prog_4_method_15_code
def yX2_reckonedRain : MethodName := ⟨RX2, "reckonedRain", "(I)J"⟩
abbrev cX2_endByLaw : ByteArray := prog_4_method_16_code
def yX2_endByLaw : MethodName := ⟨RX2, "endByLaw", "(II)I"⟩
abbrev cX2_copySetupFrom : ByteArray := prog_4_method_17_code
def yX2_copySetupFrom : MethodName := ⟨RX2, "copySetupFrom", "(LImpactPlate$Plate;)V"⟩
abbrev cX2_copyFrom : ByteArray := prog_4_method_18_code
def yX2_copyFrom : MethodName := ⟨RX2, "copyFrom", "(LImpactPlate$Plate;)V"⟩
def RX3 : String := "ImpactPlate$State"
def TX3 : u_T := fun k => match k with
  | 0 => ("ImpactPlate$State", "plate", "LImpactPlate$Plate;", true)
  | _ => ("ImpactPlate$State", "accounts", "LImpactPlate$Accounts;", true)
def tyX3 : Nat → FieldType := fun k => match k with
  | 0 => .object "ImpactPlate$Plate"
  | _ => .object "ImpactPlate$Accounts"
theorem nmX3 : ∀ a, a < 2 → ∀ b, b < 2 → a ≠ b → (TX3 a).2.1 ≠ (TX3 b).2.1 := by decide +kernel
theorem tyX3_ok : ∀ k, k < 2 → parseFieldDescriptor (TX3 k).2.2.1 = some (tyX3 k) := by decide +kernel
abbrev cX3_init : ByteArray := prog_5_method_1_code
def yX3_init : MethodName := ⟨RX3, "<init>", "()V"⟩
abbrev cX3_letFall : ByteArray := prog_5_method_2_code
def yX3_letFall : MethodName := ⟨RX3, "letFall", "(II)I"⟩
abbrev cX3_copyFrom : ByteArray := prog_5_method_3_code
def yX3_copyFrom : MethodName := ⟨RX3, "copyFrom", "(LImpactPlate$State;)V"⟩
def RX4 : String := "ImpactPlate$Text"
def TX4 : u_T := fun k => match k with
  | 0 => ("ImpactPlate$Text", "signs", "[I", true)
  | _ => ("ImpactPlate$Text", "length", "I", false)
def tyX4 : Nat → FieldType := fun k => match k with
  | 0 => .array .int
  | _ => .int
theorem nmX4 : ∀ a, a < 2 → ∀ b, b < 2 → a ≠ b → (TX4 a).2.1 ≠ (TX4 b).2.1 := by decide +kernel
theorem tyX4_ok : ∀ k, k < 2 → parseFieldDescriptor (TX4 k).2.2.1 = some (tyX4 k) := by decide +kernel
abbrev cX4_init : ByteArray := prog_6_method_1_code
def yX4_init : MethodName := ⟨RX4, "<init>", "()V"⟩
abbrev cX4_isFull : ByteArray := prog_6_method_2_code
def yX4_isFull : MethodName := ⟨RX4, "isFull", "()Z"⟩
abbrev cX4_add : ByteArray := prog_6_method_3_code
def yX4_add : MethodName := ⟨RX4, "add", "(I)I"⟩
abbrev cX4_wipe : ByteArray := prog_6_method_4_code
def yX4_wipe : MethodName := ⟨RX4, "wipe", "()I"⟩
abbrev cX4_signAt : ByteArray := prog_6_method_5_code
def yX4_signAt : MethodName := ⟨RX4, "signAt", "(I)I"⟩
abbrev cX4_digitAt : ByteArray := prog_6_method_6_code
def yX4_digitAt : MethodName := ⟨RX4, "digitAt", "(I)I"⟩
abbrev cX4_numberAt : ByteArray := prog_6_method_7_code
def yX4_numberAt : MethodName := ⟨RX4, "numberAt", "(I)I"⟩
abbrev cX4_firstError : ByteArray := prog_6_method_8_code
def yX4_firstError : MethodName := ⟨RX4, "firstError", "()I"⟩
abbrev cX4_partLength : ByteArray := prog_6_method_9_code
def yX4_partLength : MethodName := ⟨RX4, "partLength", "(I)I"⟩
abbrev cX4_errorInPart : ByteArray := prog_6_method_10_code
def yX4_errorInPart : MethodName := ⟨RX4, "errorInPart", "(I)I"⟩
abbrev cX4_errorInDrop : ByteArray := prog_6_method_11_code
def yX4_errorInDrop : MethodName := ⟨RX4, "errorInDrop", "(I)I"⟩
abbrev cX4_errorInSetting : ByteArray := prog_6_method_12_code
def yX4_errorInSetting : MethodName := ⟨RX4, "errorInSetting", "(III)I"⟩
abbrev cX4_errorInNumber : ByteArray := prog_6_method_13_code
def yX4_errorInNumber : MethodName := ⟨RX4, "errorInNumber", "(IIII)I"⟩
def RX5 : String := "ImpactPlate"
def TX5 : u_T := fun k => match k with
  | 0 => ("ImpactPlate", "text", "LImpactPlate$Text;", true)
  | 1 => ("ImpactPlate", "now", "LImpactPlate$State;", true)
  | 2 => ("ImpactPlate", "fresh", "LImpactPlate$State;", true)
  | 3 => ("ImpactPlate", "scratch", "LImpactPlate$State;", true)
  | 4 => ("ImpactPlate", "memories", "[LImpactPlate$State;", true)
  | 5 => ("ImpactPlate", "nextMemory", "I", false)
  | 6 => ("ImpactPlate", "memoryCount", "I", false)
  | 7 => ("ImpactPlate", "firstSlot", "LImpactPlate$State;", true)
  | 8 => ("ImpactPlate", "secondSlot", "LImpactPlate$State;", true)
  | 9 => ("ImpactPlate", "firstSlotFilled", "Z", false)
  | _ => ("ImpactPlate", "secondSlotFilled", "Z", false)
def tyX5 : Nat → FieldType := fun k => match k with
  | 0 => .object "ImpactPlate$Text"
  | 1 => .object "ImpactPlate$State"
  | 2 => .object "ImpactPlate$State"
  | 3 => .object "ImpactPlate$State"
  | 4 => .array (.object "ImpactPlate$State")
  | 5 => .int
  | 6 => .int
  | 7 => .object "ImpactPlate$State"
  | 8 => .object "ImpactPlate$State"
  | 9 => .boolean
  | _ => .boolean
theorem nmX5 : ∀ a, a < 11 → ∀ b, b < 11 → a ≠ b → (TX5 a).2.1 ≠ (TX5 b).2.1 := by decide +kernel
theorem tyX5_ok : ∀ k, k < 11 → parseFieldDescriptor (TX5 k).2.2.1 = some (tyX5 k) := by decide +kernel
abbrev cX5_init : ByteArray := prog_1_method_1_code
def yX5_init : MethodName := ⟨RX5, "<init>", "()V"⟩
abbrev cX5_append : ByteArray := prog_1_method_2_code
def yX5_append : MethodName := ⟨RX5, "append", "(I)I"⟩
abbrev cX5_clearText : ByteArray := prog_1_method_3_code
def yX5_clearText : MethodName := ⟨RX5, "clearText", "()I"⟩
abbrev cX5_errorPosition : ByteArray := prog_1_method_4_code
def yX5_errorPosition : MethodName := ⟨RX5, "errorPosition", "()I"⟩
abbrev cX5_load : ByteArray := prog_1_method_5_code
def yX5_load : MethodName := ⟨RX5, "load", "()I"⟩
abbrev cX5_about : ByteArray := prog_1_method_6_code
def yX5_about : MethodName := ⟨RX5, "about", "(I)I"⟩
abbrev cX5_setting : ByteArray := prog_1_method_7_code
def yX5_setting : MethodName := ⟨RX5, "setting", "(I)I"⟩
abbrev cX5_bin : ByteArray := prog_1_method_8_code
def yX5_bin : MethodName := ⟨RX5, "bin", "(II)I"⟩
abbrev cX5_pulse : ByteArray := prog_1_method_9_code
def yX5_pulse : MethodName := ⟨RX5, "pulse", "(I)I"⟩
abbrev cX5_fate : ByteArray := prog_1_method_10_code
def yX5_fate : MethodName := ⟨RX5, "fate", "(I)I"⟩
abbrev cX5_longest : ByteArray := prog_1_method_11_code
def yX5_longest : MethodName := ⟨RX5, "longest", "(I)I"⟩
abbrev cX5_pattern : ByteArray := prog_1_method_12_code
def yX5_pattern : MethodName := ⟨RX5, "pattern", "(II)I"⟩
abbrev cX5_rain : ByteArray := prog_1_method_13_code
def yX5_rain : MethodName := ⟨RX5, "rain", "(I)J"⟩
abbrev cX5_trueRain : ByteArray := prog_1_method_14_code
def yX5_trueRain : MethodName := ⟨RX5, "trueRain", "()J"⟩
abbrev cX5_drop : ByteArray := prog_1_method_15_code
def yX5_drop : MethodName := ⟨RX5, "drop", "(II)I"⟩
abbrev cX5_pass : ByteArray := prog_1_method_16_code
def yX5_pass : MethodName := ⟨RX5, "pass", "(I)I"⟩
abbrev cX5_set : ByteArray := prog_1_method_17_code
def yX5_set : MethodName := ⟨RX5, "set", "(II)I"⟩
abbrev cX5_setBorder : ByteArray := prog_1_method_18_code
def yX5_setBorder : MethodName := ⟨RX5, "setBorder", "(II)I"⟩
abbrev cX5_empty : ByteArray := prog_1_method_19_code
def yX5_empty : MethodName := ⟨RX5, "empty", "()I"⟩
abbrev cX5_undo : ByteArray := prog_1_method_20_code
def yX5_undo : MethodName := ⟨RX5, "undo", "()I"⟩
abbrev cX5_wouldBe : ByteArray := prog_1_method_21_code
def yX5_wouldBe : MethodName := ⟨RX5, "wouldBe", "(II)I"⟩
abbrev cX5_leastSize : ByteArray := prog_1_method_22_code
def yX5_leastSize : MethodName := ⟨RX5, "leastSize", "(I)I"⟩
abbrev cX5_quietIn : ByteArray := prog_1_method_23_code
def yX5_quietIn : MethodName := ⟨RX5, "quietIn", "(I)I"⟩
abbrev cX5_replay : ByteArray := prog_1_method_24_code
def yX5_replay : MethodName := ⟨RX5, "replay", "(III)I"⟩
abbrev cX5_bestWindow : ByteArray := prog_1_method_25_code
def yX5_bestWindow : MethodName := ⟨RX5, "bestWindow", "(I)I"⟩
abbrev cX5_runScript : ByteArray := prog_1_method_26_code
def yX5_runScript : MethodName := ⟨RX5, "runScript", "(IJ)I"⟩
abbrev cX5_simulate : ByteArray := prog_1_method_27_code
def yX5_simulate : MethodName := ⟨RX5, "simulate", "(JI)I"⟩
abbrev cX5_save : ByteArray := prog_1_method_28_code
def yX5_save : MethodName := ⟨RX5, "save", "(I)I"⟩
abbrev cX5_restore : ByteArray := prog_1_method_29_code
def yX5_restore : MethodName := ⟨RX5, "restore", "(I)I"⟩
abbrev cX5_remember : ByteArray := prog_1_method_30_code
def yX5_remember : MethodName := ⟨RX5, "remember", "()V"⟩
abbrev cX5_runPart : ByteArray := prog_1_method_31_code
def yX5_runPart : MethodName := ⟨RX5, "runPart", "(I)V"⟩
abbrev cX5_replayRecord : ByteArray := prog_1_method_32_code
def yX5_replayRecord : MethodName := ⟨RX5, "replayRecord", "(III)I"⟩
abbrev cX5_runCommand : ByteArray := prog_1_method_33_code
def yX5_runCommand : MethodName := ⟨RX5, "runCommand", "(I)Z"⟩
abbrev cX5_scriptedFall : ByteArray := prog_1_method_34_code
def yX5_scriptedFall : MethodName := ⟨RX5, "scriptedFall", "(II)Z"⟩
abbrev cX5_scriptedPass : ByteArray := prog_1_method_35_code
def yX5_scriptedPass : MethodName := ⟨RX5, "scriptedPass", "(I)Z"⟩
abbrev cX5_scriptedSetting : ByteArray := prog_1_method_36_code
def yX5_scriptedSetting : MethodName := ⟨RX5, "scriptedSetting", "(II)Z"⟩
abbrev cX5_isOutside : ByteArray := prog_1_method_37_code
def yX5_isOutside : MethodName := ⟨RX5, "isOutside", "(III)Z"⟩
abbrev cX5_isFall : ByteArray := prog_1_method_38_code
def yX5_isFall : MethodName := ⟨RX5, "isFall", "(II)Z"⟩
abbrev cX5_isSetting : ByteArray := prog_1_method_39_code
def yX5_isSetting : MethodName := ⟨RX5, "isSetting", "(II)Z"⟩
abbrev cX5_areFates : ByteArray := prog_1_method_40_code
def yX5_areFates : MethodName := ⟨RX5, "areFates", "(II)Z"⟩
abbrev cX5_withoutLastGroups : ByteArray := prog_1_method_41_code
def yX5_withoutLastGroups : MethodName := ⟨RX5, "withoutLastGroups", "(JI)J"⟩
abbrev cX5_weightOf : ByteArray := prog_1_method_42_code
def yX5_weightOf : MethodName := ⟨RX5, "weightOf", "(I)I"⟩
abbrev cX5_sumOf : ByteArray := prog_1_method_43_code
def yX5_sumOf : MethodName := ⟨RX5, "sumOf", "([I)I"⟩
abbrev cX5_copyRow : ByteArray := prog_1_method_44_code
def yX5_copyRow : MethodName := ⟨RX5, "copyRow", "([I[I)V"⟩
abbrev cX5_clearRow : ByteArray := prog_1_method_45_code
def yX5_clearRow : MethodName := ⟨RX5, "clearRow", "([I)V"⟩
abbrev cX5_wholeRoot : ByteArray := prog_1_method_46_code
def yX5_wholeRoot : MethodName := ⟨RX5, "wholeRoot", "(I)I"⟩
abbrev cX5_cube : ByteArray := prog_1_method_47_code
def yX5_cube : MethodName := ⟨RX5, "cube", "(I)J"⟩
def RX6 : String := "ImpactPlateModel"
def TX6 : u_T := fun k => match k with
  | 0 => ("ImpactPlateModel", "refusal", "I", false)
  | 1 => ("ImpactPlateModel", "script", "[I", true)
  | 2 => ("ImpactPlateModel", "scriptSize", "I", false)
  | 3 => ("ImpactPlateModel", "spot", "I", false)
  | 4 => ("ImpactPlateModel", "isGood", "Z", false)
  | 5 => ("ImpactPlateModel", "read", "[I", true)
  | 6 => ("ImpactPlateModel", "now", "[I", true)
  | 7 => ("ImpactPlateModel", "trial", "[I", true)
  | 8 => ("ImpactPlateModel", "diary", "[I", true)
  | 9 => ("ImpactPlateModel", "acts", "I", false)
  | 10 => ("ImpactPlateModel", "kept", "[I", true)
  | _ => ("ImpactPlateModel", "isKept", "[Z", true)
def tyX6 : Nat → FieldType := fun k => match k with
  | 0 => .int
  | 1 => .array .int
  | 2 => .int
  | 3 => .int
  | 4 => .boolean
  | 5 => .array .int
  | 6 => .array .int
  | 7 => .array .int
  | 8 => .array .int
  | 9 => .int
  | 10 => .array .int
  | _ => .array .boolean
theorem nmX6 : ∀ a, a < 12 → ∀ b, b < 12 → a ≠ b → (TX6 a).2.1 ≠ (TX6 b).2.1 := by decide +kernel
theorem tyX6_ok : ∀ k, k < 12 → parseFieldDescriptor (TX6 k).2.2.1 = some (tyX6 k) := by decide +kernel
abbrev cX6_init : ByteArray := prog_8_method_1_code
def yX6_init : MethodName := ⟨RX6, "<init>", "()V"⟩
abbrev cX6_thrown : ByteArray := prog_8_method_2_code
def yX6_thrown : MethodName := ⟨RX6, "thrown", "()I"⟩
abbrev cX6_refused : ByteArray := prog_8_method_3_code
def yX6_refused : MethodName := ⟨RX6, "refused", "(I)Z"⟩
abbrev cX6_in : ByteArray := prog_8_method_4_code
def yX6_in : MethodName := ⟨RX6, "in", "(JJJ)Z"⟩
abbrev cX6_copy : ByteArray := prog_8_method_5_code
def yX6_copy : MethodName := ⟨RX6, "copy", "([II[III)V"⟩
abbrev cX6_tenTo : ByteArray := prog_8_method_6_code
def yX6_tenTo : MethodName := ⟨RX6, "tenTo", "(I)J"⟩
abbrev cX6_least : ByteArray := prog_8_method_7_code
def yX6_least : MethodName := ⟨RX6, "least", "(I)I"⟩
abbrev cX6_most : ByteArray := prog_8_method_8_code
def yX6_most : MethodName := ⟨RX6, "most", "(I)I"⟩
abbrev cX6_firstBorder : ByteArray := prog_8_method_9_code
def yX6_firstBorder : MethodName := ⟨RX6, "firstBorder", "(I)I"⟩
abbrev cX6_clean : ByteArray := prog_8_method_10_code
def yX6_clean : MethodName := ⟨RX6, "clean", "([I)V"⟩
abbrev cX6_note : ByteArray := prog_8_method_11_code
def yX6_note : MethodName := ⟨RX6, "note", "()V"⟩
abbrev cX6_begin : ByteArray := prog_8_method_12_code
def yX6_begin : MethodName := ⟨RX6, "begin", "()V"⟩
abbrev cX6_levelAt : ByteArray := prog_8_method_13_code
def yX6_levelAt : MethodName := ⟨RX6, "levelAt", "([II)I"⟩
abbrev cX6_level : ByteArray := prog_8_method_14_code
def yX6_level : MethodName := ⟨RX6, "level", "([I)I"⟩
abbrev cX6_low : ByteArray := prog_8_method_15_code
def yX6_low : MethodName := ⟨RX6, "low", "([II)I"⟩
abbrev cX6_high : ByteArray := prog_8_method_16_code
def yX6_high : MethodName := ⟨RX6, "high", "([II)I"⟩
abbrev cX6_close : ByteArray := prog_8_method_17_code
def yX6_close : MethodName := ⟨RX6, "close", "([I)V"⟩
abbrev cX6_isInWindow : ByteArray := prog_8_method_18_code
def yX6_isInWindow : MethodName := ⟨RX6, "isInWindow", "([I)Z"⟩
abbrev cX6_goTicks : ByteArray := prog_8_method_19_code
def yX6_goTicks : MethodName := ⟨RX6, "goTicks", "([II)V"⟩
abbrev cX6_setMuch : ByteArray := prog_8_method_20_code
def yX6_setMuch : MethodName := ⟨RX6, "setMuch", "([II)V"⟩
abbrev cX6_fall : ByteArray := prog_8_method_21_code
def yX6_fall : MethodName := ⟨RX6, "fall", "([II)I"⟩
abbrev cX6_trace : ByteArray := prog_8_method_22_code
def yX6_trace : MethodName := ⟨RX6, "trace", "([II)V"⟩
abbrev cX6_record : ByteArray := prog_8_method_23_code
def yX6_record : MethodName := ⟨RX6, "record", "([II)V"⟩
abbrev cX6_goDrop : ByteArray := prog_8_method_24_code
def yX6_goDrop : MethodName := ⟨RX6, "goDrop", "([III)I"⟩
abbrev cX6_append : ByteArray := prog_8_method_25_code
def yX6_append : MethodName := ⟨RX6, "append", "(I)I"⟩
abbrev cX6_clearText : ByteArray := prog_8_method_26_code
def yX6_clearText : MethodName := ⟨RX6, "clearText", "()I"⟩
abbrev cX6_isNext : ByteArray := prog_8_method_27_code
def yX6_isNext : MethodName := ⟨RX6, "isNext", "(I)Z"⟩
abbrev cX6_accept : ByteArray := prog_8_method_28_code
def yX6_accept : MethodName := ⟨RX6, "accept", "(Z)V"⟩
abbrev cX6_digit : ByteArray := prog_8_method_29_code
def yX6_digit : MethodName := ⟨RX6, "digit", "(II)I"⟩
abbrev cX6_two : ByteArray := prog_8_method_30_code
def yX6_two : MethodName := ⟨RX6, "two", "(II)I"⟩
abbrev cX6_readPart : ByteArray := prog_8_method_31_code
def yX6_readPart : MethodName := ⟨RX6, "readPart", "()V"⟩
abbrev cX6_readText : ByteArray := prog_8_method_32_code
def yX6_readText : MethodName := ⟨RX6, "readText", "()I"⟩
abbrev cX6_errorPosition : ByteArray := prog_8_method_33_code
def yX6_errorPosition : MethodName := ⟨RX6, "errorPosition", "()I"⟩
abbrev cX6_drops : ByteArray := prog_8_method_34_code
def yX6_drops : MethodName := ⟨RX6, "drops", "([I)I"⟩
abbrev cX6_load : ByteArray := prog_8_method_35_code
def yX6_load : MethodName := ⟨RX6, "load", "()I"⟩
abbrev cX6_inBins : ByteArray := prog_8_method_36_code
def yX6_inBins : MethodName := ⟨RX6, "inBins", "([II)I"⟩
abbrev cX6_about : ByteArray := prog_8_method_37_code
def yX6_about : MethodName := ⟨RX6, "about", "(I)I"⟩
abbrev cX6_setting : ByteArray := prog_8_method_38_code
def yX6_setting : MethodName := ⟨RX6, "setting", "(I)I"⟩
abbrev cX6_isBin : ByteArray := prog_8_method_39_code
def yX6_isBin : MethodName := ⟨RX6, "isBin", "(I)Z"⟩
abbrev cX6_bin : ByteArray := prog_8_method_40_code
def yX6_bin : MethodName := ⟨RX6, "bin", "(II)I"⟩
abbrev cX6_pulse : ByteArray := prog_8_method_41_code
def yX6_pulse : MethodName := ⟨RX6, "pulse", "(I)I"⟩
abbrev cX6_fate : ByteArray := prog_8_method_42_code
def yX6_fate : MethodName := ⟨RX6, "fate", "(I)I"⟩
abbrev cX6_longest : ByteArray := prog_8_method_43_code
def yX6_longest : MethodName := ⟨RX6, "longest", "(I)I"⟩
abbrev cX6_areFates : ByteArray := prog_8_method_44_code
def yX6_areFates : MethodName := ⟨RX6, "areFates", "(II)Z"⟩
abbrev cX6_pattern : ByteArray := prog_8_method_45_code
def yX6_pattern : MethodName := ⟨RX6, "pattern", "(II)I"⟩
abbrev cX6_root : ByteArray := prog_8_method_46_code
def yX6_root : MethodName := ⟨RX6, "root", "(I)I"⟩
abbrev cX6_rainOf : ByteArray := prog_8_method_47_code
def yX6_rainOf : MethodName := ⟨RX6, "rainOf", "([II)J"⟩
abbrev cX6_rain : ByteArray := prog_8_method_48_code
def yX6_rain : MethodName := ⟨RX6, "rain", "(I)J"⟩
abbrev cX6_trueRain : ByteArray := prog_8_method_49_code
def yX6_trueRain : MethodName := ⟨RX6, "trueRain", "()J"⟩
abbrev cX6_isDrop : ByteArray := prog_8_method_50_code
def yX6_isDrop : MethodName := ⟨RX6, "isDrop", "(II)Z"⟩
abbrev cX6_drop : ByteArray := prog_8_method_51_code
def yX6_drop : MethodName := ⟨RX6, "drop", "(II)I"⟩
abbrev cX6_pass : ByteArray := prog_8_method_52_code
def yX6_pass : MethodName := ⟨RX6, "pass", "(I)I"⟩
abbrev cX6_isSetting : ByteArray := prog_8_method_53_code
def yX6_isSetting : MethodName := ⟨RX6, "isSetting", "(II)Z"⟩
abbrev cX6_set : ByteArray := prog_8_method_54_code
def yX6_set : MethodName := ⟨RX6, "set", "(II)I"⟩
abbrev cX6_setBorder : ByteArray := prog_8_method_55_code
def yX6_setBorder : MethodName := ⟨RX6, "setBorder", "(II)I"⟩
abbrev cX6_empty : ByteArray := prog_8_method_56_code
def yX6_empty : MethodName := ⟨RX6, "empty", "()I"⟩
abbrev cX6_undo : ByteArray := prog_8_method_57_code
def yX6_undo : MethodName := ⟨RX6, "undo", "()I"⟩
abbrev cX6_fateOf : ByteArray := prog_8_method_58_code
def yX6_fateOf : MethodName := ⟨RX6, "fateOf", "(II)I"⟩
abbrev cX6_wouldBe : ByteArray := prog_8_method_59_code
def yX6_wouldBe : MethodName := ⟨RX6, "wouldBe", "(II)I"⟩
abbrev cX6_leastSize : ByteArray := prog_8_method_60_code
def yX6_leastSize : MethodName := ⟨RX6, "leastSize", "(I)I"⟩
abbrev cX6_quietIn : ByteArray := prog_8_method_61_code
def yX6_quietIn : MethodName := ⟨RX6, "quietIn", "(I)I"⟩
abbrev cX6_play : ByteArray := prog_8_method_62_code
def yX6_play : MethodName := ⟨RX6, "play", "(II)V"⟩
abbrev cX6_replay : ByteArray := prog_8_method_63_code
def yX6_replay : MethodName := ⟨RX6, "replay", "(III)I"⟩
abbrev cX6_bestWindow : ByteArray := prog_8_method_64_code
def yX6_bestWindow : MethodName := ⟨RX6, "bestWindow", "(I)I"⟩
abbrev cX6_does : ByteArray := prog_8_method_65_code
def yX6_does : MethodName := ⟨RX6, "does", "(I)Z"⟩
abbrev cX6_runScript : ByteArray := prog_8_method_66_code
def yX6_runScript : MethodName := ⟨RX6, "runScript", "(IJ)I"⟩
abbrev cX6_simulate : ByteArray := prog_8_method_67_code
def yX6_simulate : MethodName := ⟨RX6, "simulate", "(JI)I"⟩
abbrev cX6_save : ByteArray := prog_8_method_68_code
def yX6_save : MethodName := ⟨RX6, "save", "(I)I"⟩
abbrev cX6_restore : ByteArray := prog_8_method_69_code
def yX6_restore : MethodName := ⟨RX6, "restore", "(I)I"⟩
def RJ9 : String := "java/lang/Math"
def TJ9 : u_T := fun k => match k with
  | _ => ("", "", "", false)
def tyJ9 : Nat → FieldType := fun k => match k with
  | _ => .int
theorem nmJ9 : ∀ a, a < 0 → ∀ b, b < 0 → a ≠ b → (TJ9 a).2.1 ≠ (TJ9 b).2.1 := by decide +kernel
theorem tyJ9_ok : ∀ k, k < 0 → parseFieldDescriptor (TJ9 k).2.2.1 = some (tyJ9 k) := by decide +kernel
abbrev cJ9_abs_067f4 : ByteArray := prog_13_method_61_code
def yJ9_abs_067f4 : MethodName := ⟨RJ9, "abs", "(J)J"⟩
abbrev cJ9_max_7cf53 : ByteArray := prog_13_method_65_code
def yJ9_max_7cf53 : MethodName := ⟨RJ9, "max", "(II)I"⟩
abbrev cJ9_min_7cf53 : ByteArray := prog_13_method_69_code
def yJ9_min_7cf53 : MethodName := ⟨RJ9, "min", "(II)I"⟩
def RJ0 : String := "java/lang/String"
def TJ0 : u_T := fun k => match k with
  | _ => ("", "", "", false)
def tyJ0 : Nat → FieldType := fun k => match k with
  | _ => .int
theorem nmJ0 : ∀ a, a < 0 → ∀ b, b < 0 → a ≠ b → (TJ0 a).2.1 ≠ (TJ0 b).2.1 := by decide +kernel
theorem tyJ0_ok : ∀ k, k < 0 → parseFieldDescriptor (TJ0 k).2.2.1 = some (tyJ0 k) := by decide +kernel
def RL : String := "ImpactPlateLaw"
abbrev cL_append : ByteArray := method_3_code
def yL_append : MethodName := ⟨RL, "append", "(LImpactPlate;I[J)I"⟩
abbrev cL_load : ByteArray := method_4_code
def yL_load : MethodName := ⟨RL, "load", "(LImpactPlate;[J)I"⟩
abbrev cL_about : ByteArray := method_5_code
def yL_about : MethodName := ⟨RL, "about", "(LImpactPlate;I[J)I"⟩
abbrev cL_setting : ByteArray := method_6_code
def yL_setting : MethodName := ⟨RL, "setting", "(LImpactPlate;I[J)I"⟩
abbrev cL_bin : ByteArray := method_7_code
def yL_bin : MethodName := ⟨RL, "bin", "(LImpactPlate;II[J)I"⟩
abbrev cL_pulse : ByteArray := method_8_code
def yL_pulse : MethodName := ⟨RL, "pulse", "(LImpactPlate;I[J)I"⟩
abbrev cL_fate : ByteArray := method_9_code
def yL_fate : MethodName := ⟨RL, "fate", "(LImpactPlate;I[J)I"⟩
abbrev cL_longest : ByteArray := method_10_code
def yL_longest : MethodName := ⟨RL, "longest", "(LImpactPlate;I[J)I"⟩
abbrev cL_pattern : ByteArray := method_11_code
def yL_pattern : MethodName := ⟨RL, "pattern", "(LImpactPlate;II[J)I"⟩
abbrev cL_rain : ByteArray := method_12_code
def yL_rain : MethodName := ⟨RL, "rain", "(LImpactPlate;I[J)I"⟩
abbrev cL_drop : ByteArray := method_13_code
def yL_drop : MethodName := ⟨RL, "drop", "(LImpactPlate;II[J)I"⟩
abbrev cL_pass : ByteArray := method_14_code
def yL_pass : MethodName := ⟨RL, "pass", "(LImpactPlate;I[J)I"⟩
abbrev cL_set : ByteArray := method_15_code
def yL_set : MethodName := ⟨RL, "set", "(LImpactPlate;II[J)I"⟩
abbrev cL_setBorder : ByteArray := method_16_code
def yL_setBorder : MethodName := ⟨RL, "setBorder", "(LImpactPlate;II[J)I"⟩
abbrev cL_undo : ByteArray := method_17_code
def yL_undo : MethodName := ⟨RL, "undo", "(LImpactPlate;[J)I"⟩
abbrev cL_wouldBe : ByteArray := method_18_code
def yL_wouldBe : MethodName := ⟨RL, "wouldBe", "(LImpactPlate;II[J)I"⟩
abbrev cL_leastSize : ByteArray := method_19_code
def yL_leastSize : MethodName := ⟨RL, "leastSize", "(LImpactPlate;I[J)I"⟩
abbrev cL_quietIn : ByteArray := method_20_code
def yL_quietIn : MethodName := ⟨RL, "quietIn", "(LImpactPlate;I[J)I"⟩
abbrev cL_replay : ByteArray := method_21_code
def yL_replay : MethodName := ⟨RL, "replay", "(LImpactPlate;III[J)I"⟩
abbrev cL_bestWindow : ByteArray := method_22_code
def yL_bestWindow : MethodName := ⟨RL, "bestWindow", "(LImpactPlate;I[J)I"⟩
abbrev cL_runScript : ByteArray := method_23_code
def yL_runScript : MethodName := ⟨RL, "runScript", "(LImpactPlate;IJ[J)I"⟩
abbrev cL_simulate : ByteArray := method_24_code
def yL_simulate : MethodName := ⟨RL, "simulate", "(LImpactPlate;JI[J)I"⟩
abbrev cL_save : ByteArray := method_25_code
def yL_save : MethodName := ⟨RL, "save", "(LImpactPlate;I[J)I"⟩
abbrev cL_restore : ByteArray := method_26_code
def yL_restore : MethodName := ⟨RL, "restore", "(LImpactPlate;I[J)I"⟩
abbrev cL_law : ByteArray := code
def yL_law : MethodName := ⟨RL, "law", "([I)Z"⟩
abbrev vwCl : List vw_C := [(RX0, TX0, 6), (RX1, TX1, 3), (RX2, TX2, 12), (RX3, TX3, 2), (RX4, TX4, 2), (RX5, TX5, 11), (RX6, TX6, 12)]
end
section
/-! ===== the V layer: the machine's heap as functions of abstract cell numbers; one rule an instruction; contracts of methods in these words ===== -/
abbrev xMem : Type := Nat → Nat → Int32
abbrev xLng : Type := Nat → Nat → Int64
abbrev xRef : Type := Nat → Nat → Option Nat
abbrev xKnd : Type := Nat → Nat × Nat
abbrev xS : Type := Bool × Nat × xKnd × xRef × xMem × xLng
abbrev xEnv : Type := va_G × (Nat → ClassId) × (Nat × Nat × Nat × Nat) × (Nat × (Nat → Int32))
abbrev xY : Type := MethodName × ByteArray × Nat × Option FieldType × Room × List (Nat × Nat × Nat × Nat)
def xB (E : xEnv) : Nat := E.2.2.1.1
/-- abstract numbers 0, 1, 2: the two static tables and the script; from 3 on: what was made since the law began, in order -/
def xAd (E : xEnv) (k : Nat) : Nat := if 3 ≤ k then xB E + (k - 3) else if k = 0 then E.2.2.1.2.1 else if k = 1 then E.2.2.1.2.2.1 else E.2.2.1.2.2.2
def xv (E : xEnv) : Value → Value
  | .ref k => .ref (xAd E k)
  | v => v
def xA (E : xEnv) : Nat → Prop := fun q => xB E ≤ q
theorem xv_cat (E : xEnv) (v : Value) : (xv E v).category = v.category := by cases v <;> rfl
theorem xAd_inj {E : xEnv} {a b : Nat} (ha : 3 ≤ a) (hb : 3 ≤ b) (h : xAd E a = xAd E b) : a = b := by
  unfold xAd at h; rw [if_pos ha, if_pos hb] at h; omega
theorem xAd_A {E : xEnv} {a : Nat} (ha : 3 ≤ a) : xA E (xAd E a) := by
  unfold xA xAd; rw [if_pos ha]; omega
/-- a slot's type: 0 int or boolean, 1 long, 2 reference -/
def xTys : List (List Nat) := [[2, 1, 0, 2, 2, 2], [2, 0, 0], [0, 2, 2, 0, 0, 0, 0, 0, 0, 2, 2, 2], [2, 2], [2, 0], [2, 2, 2, 2, 2, 0, 0, 2, 2, 0, 0], [0, 2, 0, 0, 0, 2, 2, 2, 2, 0, 2, 2]]
def xTy (t i : Nat) : Nat := if t < 10 then (xTys.getD t []).getD i 0 else if t = 11 then 1 else if t = 13 then 2 else 0
def xVal (E : xEnv) (K : xKnd) (G : xRef) (M : xMem) (L : xLng) (k i : Nat) : Value :=
  if xTy (K k).1 i = 0 then .int (M k i) else if xTy (K k).1 i = 1 then .long (L k i) else va_rf ((G k i).map (xAd E))
def xCell (E : xEnv) (K : xKnd) (G : xRef) (M : xMem) (L : xLng) (H : Heap) (k : Nat) : Prop :=
  ((K k).1 < 10 → ∃ r : vw_C, vwCl[(K k).1]? = some r ∧ (K k).2 = r.2.2 ∧ t_OB (xAd E k) (E.1.1 (K k).1) r.2.2 (E.1.2 (K k).1) H (xVal E K G M L k)) ∧
  (10 ≤ (K k).1 → (K k).1 < 14 → H[xAd E k]? = some (arrV (E.2.1 (K k).1) (K k).2 (xVal E K G M L k)))
def xRel (E : xEnv) (q : xS) (H : Heap) : Prop :=
  (∀ k, 3 ≤ k → k < q.2.1 → xCell E q.2.2.1 q.2.2.2.1 q.2.2.2.2.1 q.2.2.2.2.2 H k) ∧ 3 ≤ q.2.1 ∧ xB E + q.2.1 ≤ H.size + 3 ∧ (q.1 = true → H.size + 3 = xB E + q.2.1)
def xIs (n : Nat) (K : xKnd) (a c N : Nat) : Prop := 3 ≤ a ∧ a < n ∧ K a = (c, N) ∧ N < 2 ^ 31
def xLeast : Nat → Int32 := fun i => if i = 2 ∨ i = 3 then 1 else if i = 4 then 500 else 0
def xGreatest : Nat → Int32 := fun i => if i = 0 then 40 else if i = 1 then 20 else if i = 2 then 9 else if i = 3 then 200 else 5000
def xTyl (E : xEnv) : List (ClassId × FieldType) := [(E.2.1 10, .int), (E.2.1 11, .long), (E.2.1 12, .boolean), (E.2.1 13, .object RX3)]
def xStrs : List (String × Nat × String) := [("ImpactPlate", 59, "a character code is 0 to 255"), ("ImpactPlate", 70, "the text already has 100 characters"), ("ImpactPlate", 84, "the text is not a storm"), ("ImpactPlate", 148, "what is 0 to 11"), ("ImpactPlate", 150, "a setting is 0 to 4"), ("ImpactPlate", 157, "a bin is 0 to 7"), ("ImpactPlate", 169, "what is 0 to 4"), ("ImpactPlate", 171, "what is 0 to 3"), ("ImpactPlate", 185, "i is not negative"), ("ImpactPlate", 190, "a fate is 0 to 3"), ("ImpactPlate", 195, "a pattern has 1 to 8 fates"), ("ImpactPlate", 201, "fates are at most n digits from 0 to 3"), ("ImpactPlate", 207, "a law is 0 to 2"), ("ImpactPlate", 220, "ticks are 0 to 99, a size is 1 to 60"), ("ImpactPlate", 228, "ticks are 1 to 99"), ("ImpactPlate", 236, "there is no such setting, or v is out of its range"), ("ImpactPlate", 238, "a border is 1 to 7"), ("ImpactPlate", 240, "a border lies at 1 to 5000"), ("ImpactPlate", 245, "each border is greater than the one before"), ("ImpactPlate", 253, "no state is remembered"), ("ImpactPlate", 261, "ticks are 0 to 99"), ("ImpactPlate", 263, "a level is 0 to 5000"), ("ImpactPlate", 265, "a window is 0 to 20, a damping 1 to 9, what 0 to 3"), ("ImpactPlate", 290, "a script has 1 to 3 commands"), ("ImpactPlate", 296, "a script has at most five digits a command"), ("ImpactPlate", 304, "rounds are 1 to 99"), ("ImpactPlate", 313, "a save slot is 0 or 1"), ("ImpactPlate", 315, "nothing has been saved in this slot")]
/-- what the tables and the old heap say, at any state -/
def xKn (E : xEnv) (U : State) : Prop :=
  va_K E.1 vwCl (xTyl E) U ∧ xB E ≤ U.heap.size ∧
  (va_X (xAd E 0) 5 xLeast U U.heap ∧ xAd E 0 < xB E) ∧ (va_X (xAd E 1) 5 xGreatest U U.heap ∧ xAd E 1 < xB E) ∧ (va_X (xAd E 2) E.2.2.2.1 E.2.2.2.2 U U.heap ∧ xAd E 2 < xB E) ∧
  va_Z RX5 "LEAST_SETTING" "[I" (.ref (xAd E 0)) (xA E) U U.heap ∧ va_Z RX5 "GREATEST_SETTING" "[I" (.ref (xAd E 1)) (xA E) U U.heap ∧
  vx_Zq Bundle.tN "UNASSIGNED_STACK" Bundle.steD (xA E) U U.heap ∧ vx_Zq Bundle.tN "SUPPRESSED_SENTINEL" Bundle.listD (xA E) U U.heap ∧
  (∀ q ∈ xStrs, ∃ a, vk_R q.1 q.2.1 q.2.2 a U) ∧ va_AO RX3 U ∧
  va_Nc "java/lang/IllegalStateException" "java/lang/IllegalArgumentException" U ∧ va_Nc "java/lang/IllegalArgumentException" "java/lang/IndexOutOfBoundsException" U ∧ va_Nc "java/lang/IllegalStateException" "java/lang/IndexOutOfBoundsException" U
theorem xKn.go {E : xEnv} {s U : State} {H : Heap} {locs : List Loc} (h : xKn E s) (hS : va_S (xA E) s.heap H locs) (hU : U.heap = H) (hW : s.WarmedH U.vm) : xKn E U := by
  obtain ⟨h1, h2, ⟨h3, h3'⟩, ⟨h4, h4'⟩, ⟨h5, h5'⟩, h6, h7, h8, h9, h10, h11, h12, h13, h14⟩ := h
  have old : ∀ b : Nat, b < xB E → H[b]? = s.heap[b]? := fun b hb => hS.2.1 b (by omega) (by unfold xA; omega)
  subst hU
  exact ⟨h1.moved hW.alike, Nat.le_trans h2 hS.1, ⟨(h3.moved hW.alike).kept (old _ h3'), h3'⟩, ⟨(h4.moved hW.alike).kept (old _ h4'), h4'⟩, ⟨(h5.moved hW.alike).kept (old _ h5'), h5'⟩,
    va_Z.moved hW.alike (h6.kept hS.2.1), va_Z.moved hW.alike (h7.kept hS.2.1), vx_Zq.moved hW.alike (h8.kept hS.2.1), vx_Zq.moved hW.alike (h9.kept hS.2.1),
    fun q hq => by obtain ⟨a, ha⟩ := h10 q hq; exact ⟨a, ha.warm hW⟩, va_AO.moved hW.alike h11, h12.moved hW.alike, h13.moved hW.alike, h14.moved hW.alike⟩
theorem xKn.calling {E : xEnv} {U : State} (g : JFrame) (mk : MethodId) (a : Array Value) (h : xKn E U) : xKn E (U.calling g mk a) := by
  have e := h.go (U := U.calling g mk a) (H := U.heap) (locs := []) va_S.rf rfl (State.WarmedH.refl U)
  exact e
/-! the words that stay -/
def xok : Cond → Bool
  | .fieldLinkNest .. => true
  | .methodLinkNest .. => true
  | w => goodWord w || (w.onTables && w.faceAtom)
theorem xok_at {args a' : Array Value} {s U : State} (hW : s.WarmedH U.vm) : ∀ {w : Cond}, xok w = true → w.before args s = true → w.before a' U = true := by
  have face : ∀ {w : Cond}, (goodWord w || (w.onTables && w.faceAtom)) = true → w.before args s = true → w.before a' U = true := by
    intro w hg h
    simp only [Bool.or_eq_true, Bool.and_eq_true] at hg
    rcases hg with hg | ⟨h1, h2⟩
    · exact word_at hW (good_of_word hg) h
    · exact va_tabs h1 (rfl : (s.setVm U.vm).vm = U.vm) (Cond.faceAtom_setVm hW.alike w h2 h)
  intro w hg h
  cases w
  case fieldLinkNest a i b n d hst => exact va_tabs rfl (rfl : (s.setVm U.vm).vm = U.vm) (Cond.fieldLinkNest_warmed hW h)
  case methodLinkNest a i x hst => exact va_tabs rfl (rfl : (s.setVm U.vm).vm = U.vm) (Cond.methodLinkNest_warmed hW h)
  all_goals exact face hg h
def xTT : List Cond := lw_tbl.filter xok
theorem xTT_of {w : Cond} (h : w ∈ lw_tbl) (hk : xok w = true) : w ∈ xTT := List.mem_filter.mpr ⟨h, hk⟩
theorem xTT_at {args a' : Array Value} {s U : State} (hW : s.WarmedH U.vm) (hts : ∀ w ∈ xTT, w.before args s = true) : ∀ w ∈ xTT, w.before a' U = true :=
  fun w hw => xok_at hW (List.mem_filter.mp hw).2 (hts w hw)
/-! the judgement -/
abbrev xQ : Type := State → Array Value → List Frame → State → Prop
def xCtx (E : xEnv) (Y : xY) (p : Program) (s : State) (m : MethodId) (args : Array Value) (meth : Method) (c : Code) : Prop :=
  p.tables.exec = Jvm.exec ∧ c.code = Y.2.1 ∧ c.maxLocals = Y.2.2.1 ∧ meth.sig.returnType = Y.2.2.2.1 ∧ meth.locks = false ∧ meth.name = Y.1.name ∧ s.vm.findClass Y.1.cls = some m.cls ∧
  (∀ w ∈ xTT, w.before args s = true) ∧ xKn E s ∧ c.exceptionTable.toList = tableOf Y.2.2.2.2.2
def xHas (E : xEnv) (lc : Array Slot) (nL : Nat) (ls : List (Option Value)) : Prop :=
  lc.size = nL ∧ lv_wf lc ∧ ∀ (i : Nat) (v : Value), ls[i]? = some (some v) → lc[i]? = some (.val (xv E v))
def V (E : xEnv) (l : Launch) (Y : xY) (Q : xQ) (q : xS) (cs : Nat × Nat) (pc : Nat) (ls : List (Option Value)) (st : List Value) : Prop :=
  ∀ (p : Program) (e : Env) (s : State) (m : MethodId) (args : Array Value) (below : List Frame) (meth : Method) (c : Code), xCtx E Y p s m args meth c →
  ∀ (H : Heap) (locs : List Loc) (lc : Array Slot), xHas E lc Y.2.2.1 ls → xRel E q H → va_S (xA E) s.heap H locs →
  W p l e Y.2.2.2.2.1 s m args below meth c H locs cs.1 cs.2 (Q s args below) (F0 m pc lc (st.map (xv E)))
end
section
section VR
variable {E : xEnv} {l : Launch} {Y : xY} {Q : xQ} {q : xS} {cs : Nat × Nat} {pc : Nat} {ls : List (Option Value)} {st : List Value}
theorem V_iconst {n : Int} {v : Int32} (d : decode Y.2.1 pc = .ok (.iconst n, 1)) (hv : Int32.ofInt n = v := by decide) (k : V E l Y Q q cs (pc + 1) ls (.int v :: st)) : V E l Y Q q cs pc ls (st) :=
  fun p e s m args below meth c C H locs lc hl hR hS => lv_iconst C.1 C.2.1 d hv (k p e s m args below meth c C H locs lc hl hR hS)
theorem V_bipush {n : Int} {v : Int32} (d : decode Y.2.1 pc = .ok (.bipush n, 2)) (hv : (Int8.ofInt n).toInt32 = v := by decide) (k : V E l Y Q q cs (pc + 2) ls (.int v :: st)) : V E l Y Q q cs pc ls (st) :=
  fun p e s m args below meth c C H locs lc hl hR hS => lv_bipush C.1 C.2.1 d hv (k p e s m args below meth c C H locs lc hl hR hS)
theorem V_sipush {n : Int} {v : Int32} (d : decode Y.2.1 pc = .ok (.sipush n, 3)) (hv : (Int16.ofInt n).toInt32 = v := by decide) (k : V E l Y Q q cs (pc + 3) ls (.int v :: st)) : V E l Y Q q cs pc ls (st) :=
  fun p e s m args below meth c C H locs lc hl hR hS => lv_sipush C.1 C.2.1 d hv (k p e s m args below meth c C H locs lc hl hR hS)
theorem V_lconst {n : Fin 2} {v : Int64} (d : decode Y.2.1 pc = .ok (.lconst n, 1)) (hv : Int64.ofNat (n : Nat) = v := by decide) (k : V E l Y Q q cs (pc + 1) ls (.long v :: st)) : V E l Y Q q cs pc ls (st) :=
  fun p e s m args below meth c C H locs lc hl hR hS => lv_lconst C.1 C.2.1 d hv (k p e s m args below meth c C H locs lc hl hR hS)
theorem V_iadd {x y : Int32} (d : decode Y.2.1 pc = .ok (.iadd, 1))  (k : V E l Y Q q cs (pc + 1) ls (.int (x + y) :: st)) : V E l Y Q q cs pc ls (.int y :: .int x :: st) :=
  fun p e s m args below meth c C H locs lc hl hR hS => lv_iadd C.1 C.2.1 d  (k p e s m args below meth c C H locs lc hl hR hS)
theorem V_isub {x y : Int32} (d : decode Y.2.1 pc = .ok (.isub, 1))  (k : V E l Y Q q cs (pc + 1) ls (.int (x - y) :: st)) : V E l Y Q q cs pc ls (.int y :: .int x :: st) :=
  fun p e s m args below meth c C H locs lc hl hR hS => lv_isub C.1 C.2.1 d  (k p e s m args below meth c C H locs lc hl hR hS)
theorem V_imul {x y : Int32} (d : decode Y.2.1 pc = .ok (.imul, 1))  (k : V E l Y Q q cs (pc + 1) ls (.int (x * y) :: st)) : V E l Y Q q cs pc ls (.int y :: .int x :: st) :=
  fun p e s m args below meth c C H locs lc hl hR hS => lv_imul C.1 C.2.1 d  (k p e s m args below meth c C H locs lc hl hR hS)
theorem V_iand {x y : Int32} (d : decode Y.2.1 pc = .ok (.iand, 1))  (k : V E l Y Q q cs (pc + 1) ls (.int (x &&& y) :: st)) : V E l Y Q q cs pc ls (.int y :: .int x :: st) :=
  fun p e s m args below meth c C H locs lc hl hR hS => lv_iand C.1 C.2.1 d  (k p e s m args below meth c C H locs lc hl hR hS)
theorem V_idiv {x y : Int32} (d : decode Y.2.1 pc = .ok (.idiv, 1)) (hne : ¬ y = 0) (k : V E l Y Q q cs (pc + 1) ls (.int (x / y) :: st)) : V E l Y Q q cs pc ls (.int y :: .int x :: st) :=
  fun p e s m args below meth c C H locs lc hl hR hS => lv_idiv C.1 C.2.1 d hne (k p e s m args below meth c C H locs lc hl hR hS)
theorem V_irem {x y : Int32} (d : decode Y.2.1 pc = .ok (.irem, 1)) (hne : ¬ y = 0) (k : V E l Y Q q cs (pc + 1) ls (.int (x - x / y * y) :: st)) : V E l Y Q q cs pc ls (.int y :: .int x :: st) :=
  fun p e s m args below meth c C H locs lc hl hR hS => lv_irem C.1 C.2.1 d hne (k p e s m args below meth c C H locs lc hl hR hS)
theorem V_ishr {x y : Int32} (d : decode Y.2.1 pc = .ok (.ishr, 1))  (k : V E l Y Q q cs (pc + 1) ls (.int (x >>> (y &&& 31)) :: st)) : V E l Y Q q cs pc ls (.int y :: .int x :: st) :=
  fun p e s m args below meth c C H locs lc hl hR hS => lv_ishr C.1 C.2.1 d  (k p e s m args below meth c C H locs lc hl hR hS)
theorem V_ladd {x y : Int64} (d : decode Y.2.1 pc = .ok (.ladd, 1))  (k : V E l Y Q q cs (pc + 1) ls (.long (x + y) :: st)) : V E l Y Q q cs pc ls (.long y :: .long x :: st) :=
  fun p e s m args below meth c C H locs lc hl hR hS => lv_ladd C.1 C.2.1 d  (k p e s m args below meth c C H locs lc hl hR hS)
theorem V_lsub {x y : Int64} (d : decode Y.2.1 pc = .ok (.lsub, 1))  (k : V E l Y Q q cs (pc + 1) ls (.long (x - y) :: st)) : V E l Y Q q cs pc ls (.long y :: .long x :: st) :=
  fun p e s m args below meth c C H locs lc hl hR hS => lv_lsub C.1 C.2.1 d  (k p e s m args below meth c C H locs lc hl hR hS)
theorem V_lmul {x y : Int64} (d : decode Y.2.1 pc = .ok (.lmul, 1))  (k : V E l Y Q q cs (pc + 1) ls (.long (x * y) :: st)) : V E l Y Q q cs pc ls (.long y :: .long x :: st) :=
  fun p e s m args below meth c C H locs lc hl hR hS => lv_lmul C.1 C.2.1 d  (k p e s m args below meth c C H locs lc hl hR hS)
theorem V_land {x y : Int64} (d : decode Y.2.1 pc = .ok (.land, 1))  (k : V E l Y Q q cs (pc + 1) ls (.long (x &&& y) :: st)) : V E l Y Q q cs pc ls (.long y :: .long x :: st) :=
  fun p e s m args below meth c C H locs lc hl hR hS => lv_land C.1 C.2.1 d  (k p e s m args below meth c C H locs lc hl hR hS)
theorem V_lor {x y : Int64} (d : decode Y.2.1 pc = .ok (.lor, 1))  (k : V E l Y Q q cs (pc + 1) ls (.long (x ||| y) :: st)) : V E l Y Q q cs pc ls (.long y :: .long x :: st) :=
  fun p e s m args below meth c C H locs lc hl hR hS => lv_lor C.1 C.2.1 d  (k p e s m args below meth c C H locs lc hl hR hS)
theorem V_ldiv {x y : Int64} (d : decode Y.2.1 pc = .ok (.ldiv, 1)) (hne : ¬ y = 0) (k : V E l Y Q q cs (pc + 1) ls (.long (x / y) :: st)) : V E l Y Q q cs pc ls (.long y :: .long x :: st) :=
  fun p e s m args below meth c C H locs lc hl hR hS => lv_ldiv C.1 C.2.1 d hne (k p e s m args below meth c C H locs lc hl hR hS)
theorem V_lrem {x y : Int64} (d : decode Y.2.1 pc = .ok (.lrem, 1)) (hne : ¬ y = 0) (k : V E l Y Q q cs (pc + 1) ls (.long (x - x / y * y) :: st)) : V E l Y Q q cs pc ls (.long y :: .long x :: st) :=
  fun p e s m args below meth c C H locs lc hl hR hS => lv_lrem C.1 C.2.1 d hne (k p e s m args below meth c C H locs lc hl hR hS)
theorem V_lneg {x : Int64} (d : decode Y.2.1 pc = .ok (.lneg, 1))  (k : V E l Y Q q cs (pc + 1) ls (.long (-x) :: st)) : V E l Y Q q cs pc ls (.long x :: st) :=
  fun p e s m args below meth c C H locs lc hl hR hS => lv_lneg C.1 C.2.1 d  (k p e s m args below meth c C H locs lc hl hR hS)
theorem V_i2l {x : Int32} (d : decode Y.2.1 pc = .ok (.i2l, 1))  (k : V E l Y Q q cs (pc + 1) ls (.long x.toInt64 :: st)) : V E l Y Q q cs pc ls (.int x :: st) :=
  fun p e s m args below meth c C H locs lc hl hR hS => lv_i2l C.1 C.2.1 d rfl (k p e s m args below meth c C H locs lc hl hR hS)
theorem V_l2i {x : Int64} (d : decode Y.2.1 pc = .ok (.l2i, 1))  (k : V E l Y Q q cs (pc + 1) ls (.int x.toInt32 :: st)) : V E l Y Q q cs pc ls (.long x :: st) :=
  fun p e s m args below meth c C H locs lc hl hR hS => lv_l2i C.1 C.2.1 d rfl (k p e s m args below meth c C H locs lc hl hR hS)
theorem V_lushr {x : Int64} {y : Int32} (d : decode Y.2.1 pc = .ok (.lushr, 1))  (k : V E l Y Q q cs (pc + 1) ls (.long ((x.toUInt64 >>> (y.toInt64.toUInt64 &&& Int64.toUInt64 63)).toInt64) :: st)) : V E l Y Q q cs pc ls (.int y :: .long x :: st) :=
  fun p e s m args below meth c C H locs lc hl hR hS => lv_lushr C.1 C.2.1 d rfl (k p e s m args below meth c C H locs lc hl hR hS)
theorem V_lshl {x : Int64} {y : Int32} (d : decode Y.2.1 pc = .ok (.lshl, 1))  (k : V E l Y Q q cs (pc + 1) ls (.long (x <<< (y.toInt64 &&& 63)) :: st)) : V E l Y Q q cs pc ls (.int y :: .long x :: st) :=
  fun p e s m args below meth c C H locs lc hl hR hS => lv_lshl C.1 C.2.1 d rfl (k p e s m args below meth c C H locs lc hl hR hS)
theorem V_dup {v : Value} (d : decode Y.2.1 pc = .ok (.dup, 1)) (hv : v.category = 1 := by rfl) (k : V E l Y Q q cs (pc + 1) ls (v :: v :: st)) : V E l Y Q q cs pc ls (v :: st) :=
  fun p e s m args below meth c C H locs lc hl hR hS => lv_dup C.1 C.2.1 d (by rw [xv_cat]; exact hv) (k p e s m args below meth c C H locs lc hl hR hS)
theorem V_pop {v : Value} (d : decode Y.2.1 pc = .ok (.pop, 1)) (hv : v.category = 1 := by rfl) (k : V E l Y Q q cs (pc + 1) ls st) : V E l Y Q q cs pc ls (v :: st) :=
  fun p e s m args below meth c C H locs lc hl hR hS => lv_pop C.1 C.2.1 d (by rw [xv_cat]; exact hv) (k p e s m args below meth c C H locs lc hl hR hS)
theorem V_dup2 {v w : Value} (d : decode Y.2.1 pc = .ok (.dup2, 1)) (hv : v.category = 1 := by rfl) (hw : w.category = 1 := by rfl) (k : V E l Y Q q cs (pc + 1) ls (v :: w :: v :: w :: st)) : V E l Y Q q cs pc ls (v :: w :: st) :=
  fun p e s m args below meth c C H locs lc hl hR hS => lv_dup2_11 C.1 C.2.1 d (by rw [xv_cat]; exact hv) (by rw [xv_cat]; exact hw) (k p e s m args below meth c C H locs lc hl hR hS)
theorem V_goto {off : Int} {tgt : Nat} (d : decode Y.2.1 pc = .ok (.goto off, 3)) (ht : (pc : Int) + off = (tgt : Int)) (k : V E l Y Q q cs tgt ls st) : V E l Y Q q cs pc ls st :=
  fun p e s m args below meth c C H locs lc hl hR hS => lv_goto C.1 C.2.1 d ht (k p e s m args below meth c C H locs lc hl hR hS)
theorem V_ldc {index : Nat} {v : Int32} (d : decode Y.2.1 pc = .ok (.ldc index, 2)) (hc : Cond.constant Y.1.cls index v ∈ xTT) (k : V E l Y Q q cs (pc + 2) ls (.int v :: st)) : V E l Y Q q cs pc ls st :=
  fun p e s m args below meth c C H locs lc hl hR hS => lv_ldc C.1 C.2.1 C.2.2.2.2.2.2.1 (C.2.2.2.2.2.2.2.1 _ hc) d (k p e s m args below meth c C H locs lc hl hR hS)
theorem V_ldcw {index : Nat} {v : Int32} (d : decode Y.2.1 pc = .ok (.ldc_w index, 3)) (hc : Cond.constant Y.1.cls index v ∈ xTT) (k : V E l Y Q q cs (pc + 3) ls (.int v :: st)) : V E l Y Q q cs pc ls st :=
  fun p e s m args below meth c C H locs lc hl hR hS => lv_ldcw C.1 C.2.1 C.2.2.2.2.2.2.1 (C.2.2.2.2.2.2.2.1 _ hc) d (k p e s m args below meth c C H locs lc hl hR hS)
theorem V_ldc2 {index : Nat} {v : Int64} (d : decode Y.2.1 pc = .ok (.ldc2_w index, 3)) (hc : Cond.constantLong Y.1.cls index v ∈ xTT) (k : V E l Y Q q cs (pc + 3) ls (.long v :: st)) : V E l Y Q q cs pc ls st :=
  fun p e s m args below meth c C H locs lc hl hR hS => lv_ldc2 C.1 C.2.1 C.2.2.2.2.2.2.1 (C.2.2.2.2.2.2.2.1 _ hc) d (k p e s m args below meth c C H locs lc hl hR hS)
theorem V_widen {k n : Nat} (h1 : cs.1 ≤ k) (h2 : cs.2 ≤ n) (kk : V E l Y Q q (k, n) pc ls st) : V E l Y Q q cs pc ls st :=
  fun p e s m args below meth c C H locs lc hl hR hS => W.widen h1 h2 (kk p e s m args below meth c C H locs lc hl hR hS)
theorem V_if_eq {x : Int32} {off : Int} {tgt : Nat} (d : decode Y.2.1 pc = .ok (.ifCond .eq off, 3)) (ht : (pc : Int) + off = (tgt : Int)) (kt : x = 0 → V E l Y Q q cs tgt ls st) (kf : ¬ x = 0 → V E l Y Q q cs (pc + 3) ls st) : V E l Y Q q cs pc ls (.int x :: st) :=
  fun p e s m args below meth c C H locs lc hl hR hS => lv_if_eq C.1 C.2.1 d ht (fun h => kt h p e s m args below meth c C H locs lc hl hR hS) (fun h => kf h p e s m args below meth c C H locs lc hl hR hS)
theorem V_icmp_eq {x y : Int32} {off : Int} {tgt : Nat} (d : decode Y.2.1 pc = .ok (.if_icmp .eq off, 3)) (ht : (pc : Int) + off = (tgt : Int)) (kt : x = y → V E l Y Q q cs tgt ls st) (kf : ¬ x = y → V E l Y Q q cs (pc + 3) ls st) : V E l Y Q q cs pc ls (.int y :: .int x :: st) :=
  fun p e s m args below meth c C H locs lc hl hR hS => lv_icmp_eq C.1 C.2.1 d ht (fun h => kt h p e s m args below meth c C H locs lc hl hR hS) (fun h => kf h p e s m args below meth c C H locs lc hl hR hS)
theorem V_if_ne {x : Int32} {off : Int} {tgt : Nat} (d : decode Y.2.1 pc = .ok (.ifCond .ne off, 3)) (ht : (pc : Int) + off = (tgt : Int)) (kt : ¬ x = 0 → V E l Y Q q cs tgt ls st) (kf : x = 0 → V E l Y Q q cs (pc + 3) ls st) : V E l Y Q q cs pc ls (.int x :: st) :=
  fun p e s m args below meth c C H locs lc hl hR hS => lv_if_ne C.1 C.2.1 d ht (fun h => kt h p e s m args below meth c C H locs lc hl hR hS) (fun h => kf h p e s m args below meth c C H locs lc hl hR hS)
theorem V_icmp_ne {x y : Int32} {off : Int} {tgt : Nat} (d : decode Y.2.1 pc = .ok (.if_icmp .ne off, 3)) (ht : (pc : Int) + off = (tgt : Int)) (kt : ¬ x = y → V E l Y Q q cs tgt ls st) (kf : x = y → V E l Y Q q cs (pc + 3) ls st) : V E l Y Q q cs pc ls (.int y :: .int x :: st) :=
  fun p e s m args below meth c C H locs lc hl hR hS => lv_icmp_ne C.1 C.2.1 d ht (fun h => kt h p e s m args below meth c C H locs lc hl hR hS) (fun h => kf h p e s m args below meth c C H locs lc hl hR hS)
theorem V_if_lt {x : Int32} {off : Int} {tgt : Nat} (d : decode Y.2.1 pc = .ok (.ifCond .lt off, 3)) (ht : (pc : Int) + off = (tgt : Int)) (kt : x < 0 → V E l Y Q q cs tgt ls st) (kf : ¬ x < 0 → V E l Y Q q cs (pc + 3) ls st) : V E l Y Q q cs pc ls (.int x :: st) :=
  fun p e s m args below meth c C H locs lc hl hR hS => lv_if_lt C.1 C.2.1 d ht (fun h => kt h p e s m args below meth c C H locs lc hl hR hS) (fun h => kf h p e s m args below meth c C H locs lc hl hR hS)
theorem V_icmp_lt {x y : Int32} {off : Int} {tgt : Nat} (d : decode Y.2.1 pc = .ok (.if_icmp .lt off, 3)) (ht : (pc : Int) + off = (tgt : Int)) (kt : x < y → V E l Y Q q cs tgt ls st) (kf : ¬ x < y → V E l Y Q q cs (pc + 3) ls st) : V E l Y Q q cs pc ls (.int y :: .int x :: st) :=
  fun p e s m args below meth c C H locs lc hl hR hS => lv_icmp_lt C.1 C.2.1 d ht (fun h => kt h p e s m args below meth c C H locs lc hl hR hS) (fun h => kf h p e s m args below meth c C H locs lc hl hR hS)
theorem V_if_ge {x : Int32} {off : Int} {tgt : Nat} (d : decode Y.2.1 pc = .ok (.ifCond .ge off, 3)) (ht : (pc : Int) + off = (tgt : Int)) (kt : 0 ≤ x → V E l Y Q q cs tgt ls st) (kf : ¬ 0 ≤ x → V E l Y Q q cs (pc + 3) ls st) : V E l Y Q q cs pc ls (.int x :: st) :=
  fun p e s m args below meth c C H locs lc hl hR hS => lv_if_ge C.1 C.2.1 d ht (fun h => kt h p e s m args below meth c C H locs lc hl hR hS) (fun h => kf h p e s m args below meth c C H locs lc hl hR hS)
theorem V_icmp_ge {x y : Int32} {off : Int} {tgt : Nat} (d : decode Y.2.1 pc = .ok (.if_icmp .ge off, 3)) (ht : (pc : Int) + off = (tgt : Int)) (kt : y ≤ x → V E l Y Q q cs tgt ls st) (kf : ¬ y ≤ x → V E l Y Q q cs (pc + 3) ls st) : V E l Y Q q cs pc ls (.int y :: .int x :: st) :=
  fun p e s m args below meth c C H locs lc hl hR hS => lv_icmp_ge C.1 C.2.1 d ht (fun h => kt h p e s m args below meth c C H locs lc hl hR hS) (fun h => kf h p e s m args below meth c C H locs lc hl hR hS)
theorem V_if_gt {x : Int32} {off : Int} {tgt : Nat} (d : decode Y.2.1 pc = .ok (.ifCond .gt off, 3)) (ht : (pc : Int) + off = (tgt : Int)) (kt : 0 < x → V E l Y Q q cs tgt ls st) (kf : ¬ 0 < x → V E l Y Q q cs (pc + 3) ls st) : V E l Y Q q cs pc ls (.int x :: st) :=
  fun p e s m args below meth c C H locs lc hl hR hS => lv_if_gt C.1 C.2.1 d ht (fun h => kt h p e s m args below meth c C H locs lc hl hR hS) (fun h => kf h p e s m args below meth c C H locs lc hl hR hS)
theorem V_icmp_gt {x y : Int32} {off : Int} {tgt : Nat} (d : decode Y.2.1 pc = .ok (.if_icmp .gt off, 3)) (ht : (pc : Int) + off = (tgt : Int)) (kt : y < x → V E l Y Q q cs tgt ls st) (kf : ¬ y < x → V E l Y Q q cs (pc + 3) ls st) : V E l Y Q q cs pc ls (.int y :: .int x :: st) :=
  fun p e s m args below meth c C H locs lc hl hR hS => lv_icmp_gt C.1 C.2.1 d ht (fun h => kt h p e s m args below meth c C H locs lc hl hR hS) (fun h => kf h p e s m args below meth c C H locs lc hl hR hS)
theorem V_if_le {x : Int32} {off : Int} {tgt : Nat} (d : decode Y.2.1 pc = .ok (.ifCond .le off, 3)) (ht : (pc : Int) + off = (tgt : Int)) (kt : x ≤ 0 → V E l Y Q q cs tgt ls st) (kf : ¬ x ≤ 0 → V E l Y Q q cs (pc + 3) ls st) : V E l Y Q q cs pc ls (.int x :: st) :=
  fun p e s m args below meth c C H locs lc hl hR hS => lv_if_le C.1 C.2.1 d ht (fun h => kt h p e s m args below meth c C H locs lc hl hR hS) (fun h => kf h p e s m args below meth c C H locs lc hl hR hS)
theorem V_icmp_le {x y : Int32} {off : Int} {tgt : Nat} (d : decode Y.2.1 pc = .ok (.if_icmp .le off, 3)) (ht : (pc : Int) + off = (tgt : Int)) (kt : x ≤ y → V E l Y Q q cs tgt ls st) (kf : ¬ x ≤ y → V E l Y Q q cs (pc + 3) ls st) : V E l Y Q q cs pc ls (.int y :: .int x :: st) :=
  fun p e s m args below meth c C H locs lc hl hR hS => lv_icmp_le C.1 C.2.1 d ht (fun h => kt h p e s m args below meth c C H locs lc hl hR hS) (fun h => kf h p e s m args below meth c C H locs lc hl hR hS)
theorem V_lcmp {x y : Int64} (d : decode Y.2.1 pc = .ok (.lcmp, 1)) (k : V E l Y Q q cs (pc + 1) ls (.int (lg_cmp x y) :: st)) : V E l Y Q q cs pc ls (.long y :: .long x :: st) :=
  fun p e s m args below meth c C H locs lc hl hR hS => W.lcmp C.1 C.2.1 d (k p e s m args below meth c C H locs lc hl hR hS)
theorem V_tableIn {dflt lo hi : Int} {offs : Array Int} {len : Nat} {x : Int32} {off : Int} {tgt : Nat} (d : decode Y.2.1 pc = .ok (.tableswitch dflt lo hi offs, len)) (h1 : ¬ x.toInt < lo) (h2 : ¬ hi < x.toInt) (ho : offs[(x.toInt - lo).toNat]? = some off) (ht : (pc : Int) + off = (tgt : Int)) (k : V E l Y Q q cs tgt ls st) : V E l Y Q q cs pc ls (.int x :: st) :=
  fun p e s m args below meth c C H locs lc hl hR hS => lv_tableIn C.1 C.2.1 d h1 h2 ho ht (k p e s m args below meth c C H locs lc hl hR hS)
theorem V_tableOut {dflt lo hi : Int} {offs : Array Int} {len : Nat} {x : Int32} {tgt : Nat} (d : decode Y.2.1 pc = .ok (.tableswitch dflt lo hi offs, len)) (h : x.toInt < lo ∨ hi < x.toInt) (ht : (pc : Int) + dflt = (tgt : Int)) (k : V E l Y Q q cs tgt ls st) : V E l Y Q q cs pc ls (.int x :: st) :=
  fun p e s m args below meth c C H locs lc hl hR hS => lv_tableOut C.1 C.2.1 d h ht (k p e s m args below meth c C H locs lc hl hR hS)
theorem V_lookup {dflt : Int} {ps : Array (Int × Int)} {len : Nat} {x : Int32} {off : Int} {tgt : Nat} (d : decode Y.2.1 pc = .ok (.lookupswitch dflt ps, len)) (hp : (ps.toList.zip (ps.toList.drop 1)).all (fun (a, next) => a.1 < next.1) = true) (ho : Op.lookupswitch.offset ps.toList dflt x.toInt = off) (ht : (pc : Int) + off = (tgt : Int)) (k : V E l Y Q q cs tgt ls st) : V E l Y Q q cs pc ls (.int x :: st) :=
  fun p e s m args below meth c C H locs lc hl hR hS => lv_lookup C.1 C.2.1 d hp ho ht (k p e s m args below meth c C H locs lc hl hR hS)
/-- fewer locals are told -/
theorem V_drop {ls' : List (Option Value)} (h : ∀ (i : Nat) (v : Value), ls'[i]? = some (some v) → ls[i]? = some (some v)) (k : V E l Y Q q cs pc ls' st) : V E l Y Q q cs pc ls st :=
  fun p e s m args below meth c C H locs lc hl hR hS => k p e s m args below meth c C H locs lc ⟨hl.1, hl.2.1, fun i v hv => hl.2.2 i v (h i v hv)⟩ hR hS
theorem V_topi {x : Int32} (k : ∀ y : Int32, y = x → V E l Y Q q cs pc ls (.int y :: st)) : V E l Y Q q cs pc ls (.int x :: st) := k x rfl
theorem V_topl {x : Int64} (k : ∀ y : Int64, y = x → V E l Y Q q cs pc ls (.long y :: st)) : V E l Y Q q cs pc ls (.long x :: st) := k x rfl
theorem V_top {v w : Value} (h : w = v) (k : V E l Y Q q cs pc ls (w :: st)) : V E l Y Q q cs pc ls (v :: st) := h ▸ k
theorem V_top2 {u v w : Value} (h : w = v) (k : V E l Y Q q cs pc ls (u :: w :: st)) : V E l Y Q q cs pc ls (u :: v :: st) := h ▸ k
end VR
section VL
variable {E : xEnv} {l : Launch} {Y : xY} {Q : xQ} {q : xS} {cs : Nat × Nat} {pc : Nat} {ls : List (Option Value)} {st : List Value}
def xnl : Option Value → Bool
  | some (.long _) => false
  | some (.double _) => false
  | _ => true
def xpr (E : xEnv) (nL : Nat) (ls : List (Option Value)) : List (Nat × Value) := (List.range nL).filterMap (fun i => match ls[i]? with | some (some v) => some (i, xv E v) | _ => none)
theorem xpr_mem {E : xEnv} {nL : Nat} {ls : List (Option Value)} {i : Nat} {v : Value} : (i < nL ∧ ls[i]? = some (some v)) → (i, xv E v) ∈ xpr E nL ls := by
  rintro ⟨h1, h2⟩
  refine List.mem_filterMap.mpr ⟨i, List.mem_range.mpr h1, ?_⟩
  rw [h2]
theorem xpr_of {E : xEnv} {nL : Nat} {ls : List (Option Value)} {x : Nat × Value} (h : x ∈ xpr E nL ls) : ∃ v, ls[x.1]? = some (some v) ∧ x.2 = xv E v := by
  obtain ⟨i, hi, h2⟩ := List.mem_filterMap.mp h
  split at h2
  next v hv => cases h2; exact ⟨v, hv, rfl⟩
  next => cases h2
theorem xHas.lv {lc : Array Slot} {nL : Nat} {ls : List (Option Value)} (h : xHas E lc nL ls) : lv_has lc nL (xpr E nL ls) := ⟨h.1, h.2.1, fun x hx => by
  obtain ⟨v, h1, h2⟩ := xpr_of hx
  rw [h2]
  exact h.2.2 _ _ h1⟩
theorem xHas.lt {lc : Array Slot} {nL : Nat} {ls : List (Option Value)} (h : xHas E lc nL ls) {i : Nat} {v : Value} (hv : ls[i]? = some (some v)) : i < nL := by
  have := h.2.2 i v hv
  rw [← h.1]
  exact (Array.getElem?_eq_some_iff.mp this).1
/-- what one slot's storing leaves -/
def xSt1 (ls ls' : List (Option Value)) (i : Nat) (v : Value) : Prop := ∀ (j : Nat) (w : Value), ls'[j]? = some (some w) → (j = i ∧ w = v) ∨ (j ≠ i ∧ ls[j]? = some (some w) ∧ (j + 1 = i → xnl (some w) = true))
def xSt2 (ls ls' : List (Option Value)) (i : Nat) (v : Value) : Prop := ∀ (j : Nat) (w : Value), ls'[j]? = some (some w) → (j = i ∧ w = v) ∨ (j ≠ i ∧ j ≠ i + 1 ∧ ls[j]? = some (some w) ∧ (j + 1 = i → xnl (some w) = true))
theorem xnl_cat {E : xEnv} {w : Value} (h : xnl (some w) = true) : ¬ (xv E w).category = 2 := by rw [xv_cat]; cases w <;> simp [xnl, Value.category] at h ⊢
theorem xHas.st1 {lc lc' : Array Slot} {nL : Nat} {ls ls' : List (Option Value)} {i : Nat} {v : Value} (h : xHas E lc nL ls) (hs : xSt1 ls ls' i v)
    (h' : lv_has lc' nL ((i, xv E v) :: (xpr E nL ls).filter (fun q => !(q.1 == i) && !(q.1 + 1 == i && q.2.category == 2)))) : xHas E lc' nL ls' := by
  refine ⟨h'.1, h'.2.1, fun j w hw => ?_⟩
  rcases hs j w hw with ⟨rfl, rfl⟩ | ⟨h1, h2, h3⟩
  · exact h'.2.2 _ List.mem_cons_self
  · refine h'.2.2 (j, xv E w) (List.mem_cons_of_mem _ (List.mem_filter.mpr ⟨xpr_mem ⟨h.lt h2, h2⟩, ?_⟩))
    by_cases e : j + 1 = i
    · have := xnl_cat (E := E) (h3 e)
      simp [h1, this]
    · simp [h1, e]
theorem xHas.st2 {lc lc' : Array Slot} {nL : Nat} {ls ls' : List (Option Value)} {i : Nat} {v : Value} (h : xHas E lc nL ls) (hs : xSt2 ls ls' i v)
    (h' : lv_has lc' nL ((i, xv E v) :: (xpr E nL ls).filter (fun q => !(q.1 == i) && (!(q.1 == i + 1) && !(q.1 + 1 == i && q.2.category == 2))))) : xHas E lc' nL ls' := by
  refine ⟨h'.1, h'.2.1, fun j w hw => ?_⟩
  rcases hs j w hw with ⟨rfl, rfl⟩ | ⟨h1, h4, h2, h3⟩
  · exact h'.2.2 _ List.mem_cons_self
  · refine h'.2.2 (j, xv E w) (List.mem_cons_of_mem _ (List.mem_filter.mpr ⟨xpr_mem ⟨h.lt h2, h2⟩, ?_⟩))
    by_cases e : j + 1 = i
    · have := xnl_cat (E := E) (h3 e)
      simp [h1, this, h4]
    · simp [h1, e, h4]
theorem xSt1_0 {o : Option Value} {tl : List (Option Value)} {v : Value} : xSt1 (o :: tl) (some v :: tl) 0 v := by
  intro j w h
  cases j with
  | zero => left; simp at h; exact ⟨rfl, h.symm⟩
  | succ j => right; exact ⟨by omega, by simpa using h, fun e => by omega⟩
theorem xSt1_1 {a o : Option Value} {tl : List (Option Value)} {v : Value} (ha : xnl a = true) : xSt1 (a :: o :: tl) (a :: some v :: tl) 1 v := by
  intro j w h
  rcases j with _ | _ | j
  · right; simp at h; subst h; exact ⟨by omega, by simp, fun _ => ha⟩
  · left; simp at h; exact ⟨rfl, h.symm⟩
  · right; exact ⟨by omega, by simpa using h, fun e => by omega⟩
theorem xSt1.cons {ls ls' : List (Option Value)} {i : Nat} {v : Value} (a : Option Value) (h : xSt1 ls ls' (i + 1) v) : xSt1 (a :: ls) (a :: ls') (i + 2) v := by
  intro j w hw
  cases j with
  | zero => right; exact ⟨by omega, by simpa using hw, fun e => by omega⟩
  | succ j =>
    rcases h j w (by simpa using hw) with ⟨h1, h2⟩ | ⟨h1, h2, h3⟩
    · left; exact ⟨by omega, h2⟩
    · right; exact ⟨by omega, by simpa using h2, fun e => h3 (by omega)⟩
theorem xSt2_0 {o o2 : Option Value} {tl : List (Option Value)} {v : Value} : xSt2 (o :: o2 :: tl) (some v :: none :: tl) 0 v := by
  intro j w h
  rcases j with _ | _ | j
  · left; simp at h; exact ⟨rfl, h.symm⟩
  · simp at h
  · right; exact ⟨by omega, by omega, by simpa using h, fun e => by omega⟩
theorem xSt2_1 {a o o2 : Option Value} {tl : List (Option Value)} {v : Value} (ha : xnl a = true) : xSt2 (a :: o :: o2 :: tl) (a :: some v :: none :: tl) 1 v := by
  intro j w h
  rcases j with _ | _ | _ | j
  · right; simp at h; subst h; exact ⟨by omega, by omega, by simp, fun _ => ha⟩
  · left; simp at h; exact ⟨rfl, h.symm⟩
  · simp at h
  · right; exact ⟨by omega, by omega, by simpa using h, fun e => by omega⟩
theorem xSt2.cons {ls ls' : List (Option Value)} {i : Nat} {v : Value} (a : Option Value) (h : xSt2 ls ls' (i + 1) v) : xSt2 (a :: ls) (a :: ls') (i + 2) v := by
  intro j w hw
  cases j with
  | zero => right; exact ⟨by omega, by omega, by simpa using hw, fun e => by omega⟩
  | succ j =>
    rcases h j w (by simpa using hw) with ⟨h1, h2⟩ | ⟨h1, h4, h2, h3⟩
    · left; exact ⟨by omega, h2⟩
    · right; exact ⟨by omega, by omega, by simpa using h2, fun e => h3 (by omega)⟩
theorem VS_i_n {k : Fin 4} {x : Int32} {ls' : List (Option Value)} (d : decode Y.2.1 pc = .ok (.istore_n k, 1)) (hn : (k : Nat) < Y.2.2.1) (hs : xSt1 ls ls' k (.int x)) (kk : V E l Y Q q cs (pc + 1) ls' st) : V E l Y Q q cs pc ls (.int x :: st) :=
  fun p e s m args below meth c C H locs lc hl hR hS => lv_istore_n C.1 C.2.1 d rfl hl.lv hn rfl fun lc' h' => kk p e s m args below meth c C H locs lc' (hl.st1 hs h') hR hS
theorem VS_i {i : Nat} {x : Int32} {ls' : List (Option Value)} (d : decode Y.2.1 pc = .ok (.istore i, 2)) (hn : i < Y.2.2.1) (hs : xSt1 ls ls' i (.int x)) (kk : V E l Y Q q cs (pc + 2) ls' st) : V E l Y Q q cs pc ls (.int x :: st) :=
  fun p e s m args below meth c C H locs lc hl hR hS => lv_istore C.1 C.2.1 d hl.lv hn rfl fun lc' h' => kk p e s m args below meth c C H locs lc' (hl.st1 hs h') hR hS
theorem VS_a_n {k : Fin 4} {x : Nat} {ls' : List (Option Value)} (d : decode Y.2.1 pc = .ok (.astore_n k, 1)) (hn : (k : Nat) < Y.2.2.1) (hs : xSt1 ls ls' k (.ref x)) (kk : V E l Y Q q cs (pc + 1) ls' st) : V E l Y Q q cs pc ls (.ref x :: st) :=
  fun p e s m args below meth c C H locs lc hl hR hS => lv_astore_n C.1 C.2.1 d rfl hl.lv hn rfl fun lc' h' => kk p e s m args below meth c C H locs lc' (hl.st1 hs h') hR hS
theorem VS_a {i : Nat} {x : Nat} {ls' : List (Option Value)} (d : decode Y.2.1 pc = .ok (.astore i, 2)) (hn : i < Y.2.2.1) (hs : xSt1 ls ls' i (.ref x)) (kk : V E l Y Q q cs (pc + 2) ls' st) : V E l Y Q q cs pc ls (.ref x :: st) :=
  fun p e s m args below meth c C H locs lc hl hR hS => lv_astore C.1 C.2.1 d hl.lv hn rfl fun lc' h' => kk p e s m args below meth c C H locs lc' (hl.st1 hs h') hR hS
theorem VS_l_n {k : Fin 4} {x : Int64} {ls' : List (Option Value)} (d : decode Y.2.1 pc = .ok (.lstore_n k, 1)) (hn : (k : Nat) + 1 < Y.2.2.1) (hs : xSt2 ls ls' k (.long x)) (kk : V E l Y Q q cs (pc + 1) ls' st) : V E l Y Q q cs pc ls (.long x :: st) :=
  fun p e s m args below meth c C H locs lc hl hR hS => lv_lstore_n C.1 C.2.1 d rfl hl.lv hn rfl fun lc' h' => kk p e s m args below meth c C H locs lc' (hl.st2 hs h') hR hS
theorem VS_l {i : Nat} {x : Int64} {ls' : List (Option Value)} (d : decode Y.2.1 pc = .ok (.lstore i, 2)) (hn : i + 1 < Y.2.2.1) (hs : xSt2 ls ls' i (.long x)) (kk : V E l Y Q q cs (pc + 2) ls' st) : V E l Y Q q cs pc ls (.long x :: st) :=
  fun p e s m args below meth c C H locs lc hl hR hS => lv_lstore C.1 C.2.1 d hl.lv hn rfl fun lc' h' => kk p e s m args below meth c C H locs lc' (hl.st2 hs h') hR hS
theorem VS_inc {i : Nat} {n : Int} {x v : Int32} {ls' : List (Option Value)} (d : decode Y.2.1 pc = .ok (.iinc i n, 3)) (hx : ls[i]? = some (some (.int x))) (hv : x + Int32.ofInt n = v) (hs : xSt1 ls ls' i (.int v)) (kk : V E l Y Q q cs (pc + 3) ls' st) : V E l Y Q q cs pc ls st := by
  intro p e s m args below meth c C H locs lc hl hR hS
  obtain ⟨k, hk⟩ := List.getElem?_of_mem (xpr_mem (E := E) ⟨hl.lt hx, hx⟩)
  exact lv_iinc C.1 C.2.1 d hl.lv hk hv (hl.lt hx) rfl fun lc' h' => kk p e s m args below meth c C H locs lc' (hl.st1 hs h') hR hS
theorem V_ild0 {tl : List (Option Value)} {x : Int32} (d : decode Y.2.1 pc = .ok (.iload_n 0, 1)) (k : V E l Y Q q cs (pc + 1) (some (.int x) :: tl) (.int x :: st)) : V E l Y Q q cs pc (some (.int x) :: tl) st :=
  fun p e s m args below meth c C H locs lc hl hR hS => lv_iload_n C.1 C.2.1 d rfl (hl.2.2 0 (.int x) rfl) (k p e s m args below meth c C H locs lc hl hR hS)
theorem V_ald0 {tl : List (Option Value)} {x : Nat} (d : decode Y.2.1 pc = .ok (.aload_n 0, 1)) (k : V E l Y Q q cs (pc + 1) (some (.ref x) :: tl) (.ref x :: st)) : V E l Y Q q cs pc (some (.ref x) :: tl) st :=
  fun p e s m args below meth c C H locs lc hl hR hS => lv_aload_n C.1 C.2.1 d rfl (hl.2.2 0 (.ref x) rfl) (k p e s m args below meth c C H locs lc hl hR hS)
theorem V_lld0 {tl : List (Option Value)} {x : Int64} (d : decode Y.2.1 pc = .ok (.lload_n 0, 1)) (k : V E l Y Q q cs (pc + 1) (some (.long x) :: tl) (.long x :: st)) : V E l Y Q q cs pc (some (.long x) :: tl) st :=
  fun p e s m args below meth c C H locs lc hl hR hS => lv_lload_n C.1 C.2.1 d rfl (hl.2.2 0 (.long x) rfl) (k p e s m args below meth c C H locs lc hl hR hS)
theorem V_ist0 {o : Option Value} {tl : List (Option Value)} {x : Int32} (d : decode Y.2.1 pc = .ok (.istore_n 0, 1)) (hn : 0 < Y.2.2.1 := by decide) (k : V E l Y Q q cs (pc + 1) (some (.int x) :: tl) st) : V E l Y Q q cs pc (o :: tl) (.int x :: st) := VS_i_n d hn (xSt1_0) k
theorem V_ast0 {o : Option Value} {tl : List (Option Value)} {x : Nat} (d : decode Y.2.1 pc = .ok (.astore_n 0, 1)) (hn : 0 < Y.2.2.1 := by decide) (k : V E l Y Q q cs (pc + 1) (some (.ref x) :: tl) st) : V E l Y Q q cs pc (o :: tl) (.ref x :: st) := VS_a_n d hn (xSt1_0) k
theorem V_inc0 {tl : List (Option Value)} {n : Int} {x v : Int32} (d : decode Y.2.1 pc = .ok (.iinc 0 n, 3)) (hv : x + Int32.ofInt n = v) (k : V E l Y Q q cs (pc + 3) (some (.int v) :: tl) st) : V E l Y Q q cs pc (some (.int x) :: tl) st := VS_inc d rfl hv (xSt1_0) k
theorem V_lst0 {o o2 : Option Value} {tl : List (Option Value)} {x : Int64} (d : decode Y.2.1 pc = .ok (.lstore_n 0, 1)) (hn : 0 + 1 < Y.2.2.1 := by decide) (k : V E l Y Q q cs (pc + 1) (some (.long x) :: none :: tl) st) : V E l Y Q q cs pc (o :: o2 :: tl) (.long x :: st) := VS_l_n d hn (xSt2_0) k
theorem V_ild1 {a0 : Option Value} {tl : List (Option Value)} {x : Int32} (d : decode Y.2.1 pc = .ok (.iload_n 1, 1)) (k : V E l Y Q q cs (pc + 1) (a0 :: some (.int x) :: tl) (.int x :: st)) : V E l Y Q q cs pc (a0 :: some (.int x) :: tl) st :=
  fun p e s m args below meth c C H locs lc hl hR hS => lv_iload_n C.1 C.2.1 d rfl (hl.2.2 1 (.int x) rfl) (k p e s m args below meth c C H locs lc hl hR hS)
theorem V_ald1 {a0 : Option Value} {tl : List (Option Value)} {x : Nat} (d : decode Y.2.1 pc = .ok (.aload_n 1, 1)) (k : V E l Y Q q cs (pc + 1) (a0 :: some (.ref x) :: tl) (.ref x :: st)) : V E l Y Q q cs pc (a0 :: some (.ref x) :: tl) st :=
  fun p e s m args below meth c C H locs lc hl hR hS => lv_aload_n C.1 C.2.1 d rfl (hl.2.2 1 (.ref x) rfl) (k p e s m args below meth c C H locs lc hl hR hS)
theorem V_lld1 {a0 : Option Value} {tl : List (Option Value)} {x : Int64} (d : decode Y.2.1 pc = .ok (.lload_n 1, 1)) (k : V E l Y Q q cs (pc + 1) (a0 :: some (.long x) :: tl) (.long x :: st)) : V E l Y Q q cs pc (a0 :: some (.long x) :: tl) st :=
  fun p e s m args below meth c C H locs lc hl hR hS => lv_lload_n C.1 C.2.1 d rfl (hl.2.2 1 (.long x) rfl) (k p e s m args below meth c C H locs lc hl hR hS)
theorem V_ist1 {a0 : Option Value} {o : Option Value} {tl : List (Option Value)} {x : Int32} (d : decode Y.2.1 pc = .ok (.istore_n 1, 1)) (ha : xnl a0 = true := by rfl) (hn : 1 < Y.2.2.1 := by decide) (k : V E l Y Q q cs (pc + 1) (a0 :: some (.int x) :: tl) st) : V E l Y Q q cs pc (a0 :: o :: tl) (.int x :: st) := VS_i_n d hn (xSt1_1 ha) k
theorem V_ast1 {a0 : Option Value} {o : Option Value} {tl : List (Option Value)} {x : Nat} (d : decode Y.2.1 pc = .ok (.astore_n 1, 1)) (ha : xnl a0 = true := by rfl) (hn : 1 < Y.2.2.1 := by decide) (k : V E l Y Q q cs (pc + 1) (a0 :: some (.ref x) :: tl) st) : V E l Y Q q cs pc (a0 :: o :: tl) (.ref x :: st) := VS_a_n d hn (xSt1_1 ha) k
theorem V_inc1 {a0 : Option Value} {tl : List (Option Value)} {n : Int} {x v : Int32} (d : decode Y.2.1 pc = .ok (.iinc 1 n, 3)) (ha : xnl a0 = true := by rfl) (hv : x + Int32.ofInt n = v) (k : V E l Y Q q cs (pc + 3) (a0 :: some (.int v) :: tl) st) : V E l Y Q q cs pc (a0 :: some (.int x) :: tl) st := VS_inc d rfl hv (xSt1_1 ha) k
theorem V_lst1 {a0 : Option Value} {o o2 : Option Value} {tl : List (Option Value)} {x : Int64} (d : decode Y.2.1 pc = .ok (.lstore_n 1, 1)) (ha : xnl a0 = true := by rfl) (hn : 1 + 1 < Y.2.2.1 := by decide) (k : V E l Y Q q cs (pc + 1) (a0 :: some (.long x) :: none :: tl) st) : V E l Y Q q cs pc (a0 :: o :: o2 :: tl) (.long x :: st) := VS_l_n d hn (xSt2_1 ha) k
theorem V_ild2 {a0 a1 : Option Value} {tl : List (Option Value)} {x : Int32} (d : decode Y.2.1 pc = .ok (.iload_n 2, 1)) (k : V E l Y Q q cs (pc + 1) (a0 :: a1 :: some (.int x) :: tl) (.int x :: st)) : V E l Y Q q cs pc (a0 :: a1 :: some (.int x) :: tl) st :=
  fun p e s m args below meth c C H locs lc hl hR hS => lv_iload_n C.1 C.2.1 d rfl (hl.2.2 2 (.int x) rfl) (k p e s m args below meth c C H locs lc hl hR hS)
theorem V_ald2 {a0 a1 : Option Value} {tl : List (Option Value)} {x : Nat} (d : decode Y.2.1 pc = .ok (.aload_n 2, 1)) (k : V E l Y Q q cs (pc + 1) (a0 :: a1 :: some (.ref x) :: tl) (.ref x :: st)) : V E l Y Q q cs pc (a0 :: a1 :: some (.ref x) :: tl) st :=
  fun p e s m args below meth c C H locs lc hl hR hS => lv_aload_n C.1 C.2.1 d rfl (hl.2.2 2 (.ref x) rfl) (k p e s m args below meth c C H locs lc hl hR hS)
theorem V_lld2 {a0 a1 : Option Value} {tl : List (Option Value)} {x : Int64} (d : decode Y.2.1 pc = .ok (.lload_n 2, 1)) (k : V E l Y Q q cs (pc + 1) (a0 :: a1 :: some (.long x) :: tl) (.long x :: st)) : V E l Y Q q cs pc (a0 :: a1 :: some (.long x) :: tl) st :=
  fun p e s m args below meth c C H locs lc hl hR hS => lv_lload_n C.1 C.2.1 d rfl (hl.2.2 2 (.long x) rfl) (k p e s m args below meth c C H locs lc hl hR hS)
theorem V_ist2 {a0 a1 : Option Value} {o : Option Value} {tl : List (Option Value)} {x : Int32} (d : decode Y.2.1 pc = .ok (.istore_n 2, 1)) (ha : xnl a1 = true := by rfl) (hn : 2 < Y.2.2.1 := by decide) (k : V E l Y Q q cs (pc + 1) (a0 :: a1 :: some (.int x) :: tl) st) : V E l Y Q q cs pc (a0 :: a1 :: o :: tl) (.int x :: st) := VS_i_n d hn ((xSt1.cons a0 (xSt1_1 ha))) k
theorem V_ast2 {a0 a1 : Option Value} {o : Option Value} {tl : List (Option Value)} {x : Nat} (d : decode Y.2.1 pc = .ok (.astore_n 2, 1)) (ha : xnl a1 = true := by rfl) (hn : 2 < Y.2.2.1 := by decide) (k : V E l Y Q q cs (pc + 1) (a0 :: a1 :: some (.ref x) :: tl) st) : V E l Y Q q cs pc (a0 :: a1 :: o :: tl) (.ref x :: st) := VS_a_n d hn ((xSt1.cons a0 (xSt1_1 ha))) k
theorem V_inc2 {a0 a1 : Option Value} {tl : List (Option Value)} {n : Int} {x v : Int32} (d : decode Y.2.1 pc = .ok (.iinc 2 n, 3)) (ha : xnl a1 = true := by rfl) (hv : x + Int32.ofInt n = v) (k : V E l Y Q q cs (pc + 3) (a0 :: a1 :: some (.int v) :: tl) st) : V E l Y Q q cs pc (a0 :: a1 :: some (.int x) :: tl) st := VS_inc d rfl hv ((xSt1.cons a0 (xSt1_1 ha))) k
theorem V_lst2 {a0 a1 : Option Value} {o o2 : Option Value} {tl : List (Option Value)} {x : Int64} (d : decode Y.2.1 pc = .ok (.lstore_n 2, 1)) (ha : xnl a1 = true := by rfl) (hn : 2 + 1 < Y.2.2.1 := by decide) (k : V E l Y Q q cs (pc + 1) (a0 :: a1 :: some (.long x) :: none :: tl) st) : V E l Y Q q cs pc (a0 :: a1 :: o :: o2 :: tl) (.long x :: st) := VS_l_n d hn ((xSt2.cons a0 (xSt2_1 ha))) k
theorem V_ild3 {a0 a1 a2 : Option Value} {tl : List (Option Value)} {x : Int32} (d : decode Y.2.1 pc = .ok (.iload_n 3, 1)) (k : V E l Y Q q cs (pc + 1) (a0 :: a1 :: a2 :: some (.int x) :: tl) (.int x :: st)) : V E l Y Q q cs pc (a0 :: a1 :: a2 :: some (.int x) :: tl) st :=
  fun p e s m args below meth c C H locs lc hl hR hS => lv_iload_n C.1 C.2.1 d rfl (hl.2.2 3 (.int x) rfl) (k p e s m args below meth c C H locs lc hl hR hS)
theorem V_ald3 {a0 a1 a2 : Option Value} {tl : List (Option Value)} {x : Nat} (d : decode Y.2.1 pc = .ok (.aload_n 3, 1)) (k : V E l Y Q q cs (pc + 1) (a0 :: a1 :: a2 :: some (.ref x) :: tl) (.ref x :: st)) : V E l Y Q q cs pc (a0 :: a1 :: a2 :: some (.ref x) :: tl) st :=
  fun p e s m args below meth c C H locs lc hl hR hS => lv_aload_n C.1 C.2.1 d rfl (hl.2.2 3 (.ref x) rfl) (k p e s m args below meth c C H locs lc hl hR hS)
theorem V_lld3 {a0 a1 a2 : Option Value} {tl : List (Option Value)} {x : Int64} (d : decode Y.2.1 pc = .ok (.lload_n 3, 1)) (k : V E l Y Q q cs (pc + 1) (a0 :: a1 :: a2 :: some (.long x) :: tl) (.long x :: st)) : V E l Y Q q cs pc (a0 :: a1 :: a2 :: some (.long x) :: tl) st :=
  fun p e s m args below meth c C H locs lc hl hR hS => lv_lload_n C.1 C.2.1 d rfl (hl.2.2 3 (.long x) rfl) (k p e s m args below meth c C H locs lc hl hR hS)
theorem V_ist3 {a0 a1 a2 : Option Value} {o : Option Value} {tl : List (Option Value)} {x : Int32} (d : decode Y.2.1 pc = .ok (.istore_n 3, 1)) (ha : xnl a2 = true := by rfl) (hn : 3 < Y.2.2.1 := by decide) (k : V E l Y Q q cs (pc + 1) (a0 :: a1 :: a2 :: some (.int x) :: tl) st) : V E l Y Q q cs pc (a0 :: a1 :: a2 :: o :: tl) (.int x :: st) := VS_i_n d hn ((xSt1.cons a0 ((xSt1.cons a1 (xSt1_1 ha))))) k
theorem V_ast3 {a0 a1 a2 : Option Value} {o : Option Value} {tl : List (Option Value)} {x : Nat} (d : decode Y.2.1 pc = .ok (.astore_n 3, 1)) (ha : xnl a2 = true := by rfl) (hn : 3 < Y.2.2.1 := by decide) (k : V E l Y Q q cs (pc + 1) (a0 :: a1 :: a2 :: some (.ref x) :: tl) st) : V E l Y Q q cs pc (a0 :: a1 :: a2 :: o :: tl) (.ref x :: st) := VS_a_n d hn ((xSt1.cons a0 ((xSt1.cons a1 (xSt1_1 ha))))) k
theorem V_inc3 {a0 a1 a2 : Option Value} {tl : List (Option Value)} {n : Int} {x v : Int32} (d : decode Y.2.1 pc = .ok (.iinc 3 n, 3)) (ha : xnl a2 = true := by rfl) (hv : x + Int32.ofInt n = v) (k : V E l Y Q q cs (pc + 3) (a0 :: a1 :: a2 :: some (.int v) :: tl) st) : V E l Y Q q cs pc (a0 :: a1 :: a2 :: some (.int x) :: tl) st := VS_inc d rfl hv ((xSt1.cons a0 ((xSt1.cons a1 (xSt1_1 ha))))) k
theorem V_lst3 {a0 a1 a2 : Option Value} {o o2 : Option Value} {tl : List (Option Value)} {x : Int64} (d : decode Y.2.1 pc = .ok (.lstore_n 3, 1)) (ha : xnl a2 = true := by rfl) (hn : 3 + 1 < Y.2.2.1 := by decide) (k : V E l Y Q q cs (pc + 1) (a0 :: a1 :: a2 :: some (.long x) :: none :: tl) st) : V E l Y Q q cs pc (a0 :: a1 :: a2 :: o :: o2 :: tl) (.long x :: st) := VS_l_n d hn ((xSt2.cons a0 ((xSt2.cons a1 (xSt2_1 ha))))) k
theorem V_ild4 {a0 a1 a2 a3 : Option Value} {tl : List (Option Value)} {x : Int32} (d : decode Y.2.1 pc = .ok (.iload 4, 2)) (k : V E l Y Q q cs (pc + 2) (a0 :: a1 :: a2 :: a3 :: some (.int x) :: tl) (.int x :: st)) : V E l Y Q q cs pc (a0 :: a1 :: a2 :: a3 :: some (.int x) :: tl) st :=
  fun p e s m args below meth c C H locs lc hl hR hS => lv_iload C.1 C.2.1 d (hl.2.2 4 (.int x) rfl) (k p e s m args below meth c C H locs lc hl hR hS)
theorem V_ald4 {a0 a1 a2 a3 : Option Value} {tl : List (Option Value)} {x : Nat} (d : decode Y.2.1 pc = .ok (.aload 4, 2)) (k : V E l Y Q q cs (pc + 2) (a0 :: a1 :: a2 :: a3 :: some (.ref x) :: tl) (.ref x :: st)) : V E l Y Q q cs pc (a0 :: a1 :: a2 :: a3 :: some (.ref x) :: tl) st :=
  fun p e s m args below meth c C H locs lc hl hR hS => lv_aload C.1 C.2.1 d (hl.2.2 4 (.ref x) rfl) (k p e s m args below meth c C H locs lc hl hR hS)
theorem V_lld4 {a0 a1 a2 a3 : Option Value} {tl : List (Option Value)} {x : Int64} (d : decode Y.2.1 pc = .ok (.lload 4, 2)) (k : V E l Y Q q cs (pc + 2) (a0 :: a1 :: a2 :: a3 :: some (.long x) :: tl) (.long x :: st)) : V E l Y Q q cs pc (a0 :: a1 :: a2 :: a3 :: some (.long x) :: tl) st :=
  fun p e s m args below meth c C H locs lc hl hR hS => lv_lload C.1 C.2.1 d (hl.2.2 4 (.long x) rfl) (k p e s m args below meth c C H locs lc hl hR hS)
theorem V_ist4 {a0 a1 a2 a3 : Option Value} {o : Option Value} {tl : List (Option Value)} {x : Int32} (d : decode Y.2.1 pc = .ok (.istore 4, 2)) (ha : xnl a3 = true := by rfl) (hn : 4 < Y.2.2.1 := by decide) (k : V E l Y Q q cs (pc + 2) (a0 :: a1 :: a2 :: a3 :: some (.int x) :: tl) st) : V E l Y Q q cs pc (a0 :: a1 :: a2 :: a3 :: o :: tl) (.int x :: st) := VS_i d hn ((xSt1.cons a0 ((xSt1.cons a1 ((xSt1.cons a2 (xSt1_1 ha))))))) k
theorem V_ast4 {a0 a1 a2 a3 : Option Value} {o : Option Value} {tl : List (Option Value)} {x : Nat} (d : decode Y.2.1 pc = .ok (.astore 4, 2)) (ha : xnl a3 = true := by rfl) (hn : 4 < Y.2.2.1 := by decide) (k : V E l Y Q q cs (pc + 2) (a0 :: a1 :: a2 :: a3 :: some (.ref x) :: tl) st) : V E l Y Q q cs pc (a0 :: a1 :: a2 :: a3 :: o :: tl) (.ref x :: st) := VS_a d hn ((xSt1.cons a0 ((xSt1.cons a1 ((xSt1.cons a2 (xSt1_1 ha))))))) k
theorem V_inc4 {a0 a1 a2 a3 : Option Value} {tl : List (Option Value)} {n : Int} {x v : Int32} (d : decode Y.2.1 pc = .ok (.iinc 4 n, 3)) (ha : xnl a3 = true := by rfl) (hv : x + Int32.ofInt n = v) (k : V E l Y Q q cs (pc + 3) (a0 :: a1 :: a2 :: a3 :: some (.int v) :: tl) st) : V E l Y Q q cs pc (a0 :: a1 :: a2 :: a3 :: some (.int x) :: tl) st := VS_inc d rfl hv ((xSt1.cons a0 ((xSt1.cons a1 ((xSt1.cons a2 (xSt1_1 ha))))))) k
theorem V_lst4 {a0 a1 a2 a3 : Option Value} {o o2 : Option Value} {tl : List (Option Value)} {x : Int64} (d : decode Y.2.1 pc = .ok (.lstore 4, 2)) (ha : xnl a3 = true := by rfl) (hn : 4 + 1 < Y.2.2.1 := by decide) (k : V E l Y Q q cs (pc + 2) (a0 :: a1 :: a2 :: a3 :: some (.long x) :: none :: tl) st) : V E l Y Q q cs pc (a0 :: a1 :: a2 :: a3 :: o :: o2 :: tl) (.long x :: st) := VS_l d hn ((xSt2.cons a0 ((xSt2.cons a1 ((xSt2.cons a2 (xSt2_1 ha))))))) k
theorem V_ild5 {a0 a1 a2 a3 a4 : Option Value} {tl : List (Option Value)} {x : Int32} (d : decode Y.2.1 pc = .ok (.iload 5, 2)) (k : V E l Y Q q cs (pc + 2) (a0 :: a1 :: a2 :: a3 :: a4 :: some (.int x) :: tl) (.int x :: st)) : V E l Y Q q cs pc (a0 :: a1 :: a2 :: a3 :: a4 :: some (.int x) :: tl) st :=
  fun p e s m args below meth c C H locs lc hl hR hS => lv_iload C.1 C.2.1 d (hl.2.2 5 (.int x) rfl) (k p e s m args below meth c C H locs lc hl hR hS)
theorem V_ald5 {a0 a1 a2 a3 a4 : Option Value} {tl : List (Option Value)} {x : Nat} (d : decode Y.2.1 pc = .ok (.aload 5, 2)) (k : V E l Y Q q cs (pc + 2) (a0 :: a1 :: a2 :: a3 :: a4 :: some (.ref x) :: tl) (.ref x :: st)) : V E l Y Q q cs pc (a0 :: a1 :: a2 :: a3 :: a4 :: some (.ref x) :: tl) st :=
  fun p e s m args below meth c C H locs lc hl hR hS => lv_aload C.1 C.2.1 d (hl.2.2 5 (.ref x) rfl) (k p e s m args below meth c C H locs lc hl hR hS)
theorem V_lld5 {a0 a1 a2 a3 a4 : Option Value} {tl : List (Option Value)} {x : Int64} (d : decode Y.2.1 pc = .ok (.lload 5, 2)) (k : V E l Y Q q cs (pc + 2) (a0 :: a1 :: a2 :: a3 :: a4 :: some (.long x) :: tl) (.long x :: st)) : V E l Y Q q cs pc (a0 :: a1 :: a2 :: a3 :: a4 :: some (.long x) :: tl) st :=
  fun p e s m args below meth c C H locs lc hl hR hS => lv_lload C.1 C.2.1 d (hl.2.2 5 (.long x) rfl) (k p e s m args below meth c C H locs lc hl hR hS)
theorem V_ist5 {a0 a1 a2 a3 a4 : Option Value} {o : Option Value} {tl : List (Option Value)} {x : Int32} (d : decode Y.2.1 pc = .ok (.istore 5, 2)) (ha : xnl a4 = true := by rfl) (hn : 5 < Y.2.2.1 := by decide) (k : V E l Y Q q cs (pc + 2) (a0 :: a1 :: a2 :: a3 :: a4 :: some (.int x) :: tl) st) : V E l Y Q q cs pc (a0 :: a1 :: a2 :: a3 :: a4 :: o :: tl) (.int x :: st) := VS_i d hn ((xSt1.cons a0 ((xSt1.cons a1 ((xSt1.cons a2 ((xSt1.cons a3 (xSt1_1 ha))))))))) k
theorem V_ast5 {a0 a1 a2 a3 a4 : Option Value} {o : Option Value} {tl : List (Option Value)} {x : Nat} (d : decode Y.2.1 pc = .ok (.astore 5, 2)) (ha : xnl a4 = true := by rfl) (hn : 5 < Y.2.2.1 := by decide) (k : V E l Y Q q cs (pc + 2) (a0 :: a1 :: a2 :: a3 :: a4 :: some (.ref x) :: tl) st) : V E l Y Q q cs pc (a0 :: a1 :: a2 :: a3 :: a4 :: o :: tl) (.ref x :: st) := VS_a d hn ((xSt1.cons a0 ((xSt1.cons a1 ((xSt1.cons a2 ((xSt1.cons a3 (xSt1_1 ha))))))))) k
theorem V_inc5 {a0 a1 a2 a3 a4 : Option Value} {tl : List (Option Value)} {n : Int} {x v : Int32} (d : decode Y.2.1 pc = .ok (.iinc 5 n, 3)) (ha : xnl a4 = true := by rfl) (hv : x + Int32.ofInt n = v) (k : V E l Y Q q cs (pc + 3) (a0 :: a1 :: a2 :: a3 :: a4 :: some (.int v) :: tl) st) : V E l Y Q q cs pc (a0 :: a1 :: a2 :: a3 :: a4 :: some (.int x) :: tl) st := VS_inc d rfl hv ((xSt1.cons a0 ((xSt1.cons a1 ((xSt1.cons a2 ((xSt1.cons a3 (xSt1_1 ha))))))))) k
theorem V_lst5 {a0 a1 a2 a3 a4 : Option Value} {o o2 : Option Value} {tl : List (Option Value)} {x : Int64} (d : decode Y.2.1 pc = .ok (.lstore 5, 2)) (ha : xnl a4 = true := by rfl) (hn : 5 + 1 < Y.2.2.1 := by decide) (k : V E l Y Q q cs (pc + 2) (a0 :: a1 :: a2 :: a3 :: a4 :: some (.long x) :: none :: tl) st) : V E l Y Q q cs pc (a0 :: a1 :: a2 :: a3 :: a4 :: o :: o2 :: tl) (.long x :: st) := VS_l d hn ((xSt2.cons a0 ((xSt2.cons a1 ((xSt2.cons a2 ((xSt2.cons a3 (xSt2_1 ha))))))))) k
theorem V_ild6 {a0 a1 a2 a3 a4 a5 : Option Value} {tl : List (Option Value)} {x : Int32} (d : decode Y.2.1 pc = .ok (.iload 6, 2)) (k : V E l Y Q q cs (pc + 2) (a0 :: a1 :: a2 :: a3 :: a4 :: a5 :: some (.int x) :: tl) (.int x :: st)) : V E l Y Q q cs pc (a0 :: a1 :: a2 :: a3 :: a4 :: a5 :: some (.int x) :: tl) st :=
  fun p e s m args below meth c C H locs lc hl hR hS => lv_iload C.1 C.2.1 d (hl.2.2 6 (.int x) rfl) (k p e s m args below meth c C H locs lc hl hR hS)
theorem V_ald6 {a0 a1 a2 a3 a4 a5 : Option Value} {tl : List (Option Value)} {x : Nat} (d : decode Y.2.1 pc = .ok (.aload 6, 2)) (k : V E l Y Q q cs (pc + 2) (a0 :: a1 :: a2 :: a3 :: a4 :: a5 :: some (.ref x) :: tl) (.ref x :: st)) : V E l Y Q q cs pc (a0 :: a1 :: a2 :: a3 :: a4 :: a5 :: some (.ref x) :: tl) st :=
  fun p e s m args below meth c C H locs lc hl hR hS => lv_aload C.1 C.2.1 d (hl.2.2 6 (.ref x) rfl) (k p e s m args below meth c C H locs lc hl hR hS)
theorem V_lld6 {a0 a1 a2 a3 a4 a5 : Option Value} {tl : List (Option Value)} {x : Int64} (d : decode Y.2.1 pc = .ok (.lload 6, 2)) (k : V E l Y Q q cs (pc + 2) (a0 :: a1 :: a2 :: a3 :: a4 :: a5 :: some (.long x) :: tl) (.long x :: st)) : V E l Y Q q cs pc (a0 :: a1 :: a2 :: a3 :: a4 :: a5 :: some (.long x) :: tl) st :=
  fun p e s m args below meth c C H locs lc hl hR hS => lv_lload C.1 C.2.1 d (hl.2.2 6 (.long x) rfl) (k p e s m args below meth c C H locs lc hl hR hS)
theorem V_ist6 {a0 a1 a2 a3 a4 a5 : Option Value} {o : Option Value} {tl : List (Option Value)} {x : Int32} (d : decode Y.2.1 pc = .ok (.istore 6, 2)) (ha : xnl a5 = true := by rfl) (hn : 6 < Y.2.2.1 := by decide) (k : V E l Y Q q cs (pc + 2) (a0 :: a1 :: a2 :: a3 :: a4 :: a5 :: some (.int x) :: tl) st) : V E l Y Q q cs pc (a0 :: a1 :: a2 :: a3 :: a4 :: a5 :: o :: tl) (.int x :: st) := VS_i d hn ((xSt1.cons a0 ((xSt1.cons a1 ((xSt1.cons a2 ((xSt1.cons a3 ((xSt1.cons a4 (xSt1_1 ha))))))))))) k
theorem V_ast6 {a0 a1 a2 a3 a4 a5 : Option Value} {o : Option Value} {tl : List (Option Value)} {x : Nat} (d : decode Y.2.1 pc = .ok (.astore 6, 2)) (ha : xnl a5 = true := by rfl) (hn : 6 < Y.2.2.1 := by decide) (k : V E l Y Q q cs (pc + 2) (a0 :: a1 :: a2 :: a3 :: a4 :: a5 :: some (.ref x) :: tl) st) : V E l Y Q q cs pc (a0 :: a1 :: a2 :: a3 :: a4 :: a5 :: o :: tl) (.ref x :: st) := VS_a d hn ((xSt1.cons a0 ((xSt1.cons a1 ((xSt1.cons a2 ((xSt1.cons a3 ((xSt1.cons a4 (xSt1_1 ha))))))))))) k
theorem V_inc6 {a0 a1 a2 a3 a4 a5 : Option Value} {tl : List (Option Value)} {n : Int} {x v : Int32} (d : decode Y.2.1 pc = .ok (.iinc 6 n, 3)) (ha : xnl a5 = true := by rfl) (hv : x + Int32.ofInt n = v) (k : V E l Y Q q cs (pc + 3) (a0 :: a1 :: a2 :: a3 :: a4 :: a5 :: some (.int v) :: tl) st) : V E l Y Q q cs pc (a0 :: a1 :: a2 :: a3 :: a4 :: a5 :: some (.int x) :: tl) st := VS_inc d rfl hv ((xSt1.cons a0 ((xSt1.cons a1 ((xSt1.cons a2 ((xSt1.cons a3 ((xSt1.cons a4 (xSt1_1 ha))))))))))) k
theorem V_lst6 {a0 a1 a2 a3 a4 a5 : Option Value} {o o2 : Option Value} {tl : List (Option Value)} {x : Int64} (d : decode Y.2.1 pc = .ok (.lstore 6, 2)) (ha : xnl a5 = true := by rfl) (hn : 6 + 1 < Y.2.2.1 := by decide) (k : V E l Y Q q cs (pc + 2) (a0 :: a1 :: a2 :: a3 :: a4 :: a5 :: some (.long x) :: none :: tl) st) : V E l Y Q q cs pc (a0 :: a1 :: a2 :: a3 :: a4 :: a5 :: o :: o2 :: tl) (.long x :: st) := VS_l d hn ((xSt2.cons a0 ((xSt2.cons a1 ((xSt2.cons a2 ((xSt2.cons a3 ((xSt2.cons a4 (xSt2_1 ha))))))))))) k
theorem V_ild7 {a0 a1 a2 a3 a4 a5 a6 : Option Value} {tl : List (Option Value)} {x : Int32} (d : decode Y.2.1 pc = .ok (.iload 7, 2)) (k : V E l Y Q q cs (pc + 2) (a0 :: a1 :: a2 :: a3 :: a4 :: a5 :: a6 :: some (.int x) :: tl) (.int x :: st)) : V E l Y Q q cs pc (a0 :: a1 :: a2 :: a3 :: a4 :: a5 :: a6 :: some (.int x) :: tl) st :=
  fun p e s m args below meth c C H locs lc hl hR hS => lv_iload C.1 C.2.1 d (hl.2.2 7 (.int x) rfl) (k p e s m args below meth c C H locs lc hl hR hS)
theorem V_ald7 {a0 a1 a2 a3 a4 a5 a6 : Option Value} {tl : List (Option Value)} {x : Nat} (d : decode Y.2.1 pc = .ok (.aload 7, 2)) (k : V E l Y Q q cs (pc + 2) (a0 :: a1 :: a2 :: a3 :: a4 :: a5 :: a6 :: some (.ref x) :: tl) (.ref x :: st)) : V E l Y Q q cs pc (a0 :: a1 :: a2 :: a3 :: a4 :: a5 :: a6 :: some (.ref x) :: tl) st :=
  fun p e s m args below meth c C H locs lc hl hR hS => lv_aload C.1 C.2.1 d (hl.2.2 7 (.ref x) rfl) (k p e s m args below meth c C H locs lc hl hR hS)
theorem V_lld7 {a0 a1 a2 a3 a4 a5 a6 : Option Value} {tl : List (Option Value)} {x : Int64} (d : decode Y.2.1 pc = .ok (.lload 7, 2)) (k : V E l Y Q q cs (pc + 2) (a0 :: a1 :: a2 :: a3 :: a4 :: a5 :: a6 :: some (.long x) :: tl) (.long x :: st)) : V E l Y Q q cs pc (a0 :: a1 :: a2 :: a3 :: a4 :: a5 :: a6 :: some (.long x) :: tl) st :=
  fun p e s m args below meth c C H locs lc hl hR hS => lv_lload C.1 C.2.1 d (hl.2.2 7 (.long x) rfl) (k p e s m args below meth c C H locs lc hl hR hS)
theorem V_ist7 {a0 a1 a2 a3 a4 a5 a6 : Option Value} {o : Option Value} {tl : List (Option Value)} {x : Int32} (d : decode Y.2.1 pc = .ok (.istore 7, 2)) (ha : xnl a6 = true := by rfl) (hn : 7 < Y.2.2.1 := by decide) (k : V E l Y Q q cs (pc + 2) (a0 :: a1 :: a2 :: a3 :: a4 :: a5 :: a6 :: some (.int x) :: tl) st) : V E l Y Q q cs pc (a0 :: a1 :: a2 :: a3 :: a4 :: a5 :: a6 :: o :: tl) (.int x :: st) := VS_i d hn ((xSt1.cons a0 ((xSt1.cons a1 ((xSt1.cons a2 ((xSt1.cons a3 ((xSt1.cons a4 ((xSt1.cons a5 (xSt1_1 ha))))))))))))) k
theorem V_ast7 {a0 a1 a2 a3 a4 a5 a6 : Option Value} {o : Option Value} {tl : List (Option Value)} {x : Nat} (d : decode Y.2.1 pc = .ok (.astore 7, 2)) (ha : xnl a6 = true := by rfl) (hn : 7 < Y.2.2.1 := by decide) (k : V E l Y Q q cs (pc + 2) (a0 :: a1 :: a2 :: a3 :: a4 :: a5 :: a6 :: some (.ref x) :: tl) st) : V E l Y Q q cs pc (a0 :: a1 :: a2 :: a3 :: a4 :: a5 :: a6 :: o :: tl) (.ref x :: st) := VS_a d hn ((xSt1.cons a0 ((xSt1.cons a1 ((xSt1.cons a2 ((xSt1.cons a3 ((xSt1.cons a4 ((xSt1.cons a5 (xSt1_1 ha))))))))))))) k
theorem V_inc7 {a0 a1 a2 a3 a4 a5 a6 : Option Value} {tl : List (Option Value)} {n : Int} {x v : Int32} (d : decode Y.2.1 pc = .ok (.iinc 7 n, 3)) (ha : xnl a6 = true := by rfl) (hv : x + Int32.ofInt n = v) (k : V E l Y Q q cs (pc + 3) (a0 :: a1 :: a2 :: a3 :: a4 :: a5 :: a6 :: some (.int v) :: tl) st) : V E l Y Q q cs pc (a0 :: a1 :: a2 :: a3 :: a4 :: a5 :: a6 :: some (.int x) :: tl) st := VS_inc d rfl hv ((xSt1.cons a0 ((xSt1.cons a1 ((xSt1.cons a2 ((xSt1.cons a3 ((xSt1.cons a4 ((xSt1.cons a5 (xSt1_1 ha))))))))))))) k
theorem V_lst7 {a0 a1 a2 a3 a4 a5 a6 : Option Value} {o o2 : Option Value} {tl : List (Option Value)} {x : Int64} (d : decode Y.2.1 pc = .ok (.lstore 7, 2)) (ha : xnl a6 = true := by rfl) (hn : 7 + 1 < Y.2.2.1 := by decide) (k : V E l Y Q q cs (pc + 2) (a0 :: a1 :: a2 :: a3 :: a4 :: a5 :: a6 :: some (.long x) :: none :: tl) st) : V E l Y Q q cs pc (a0 :: a1 :: a2 :: a3 :: a4 :: a5 :: a6 :: o :: o2 :: tl) (.long x :: st) := VS_l d hn ((xSt2.cons a0 ((xSt2.cons a1 ((xSt2.cons a2 ((xSt2.cons a3 ((xSt2.cons a4 ((xSt2.cons a5 (xSt2_1 ha))))))))))))) k
theorem V_ild8 {a0 a1 a2 a3 a4 a5 a6 a7 : Option Value} {tl : List (Option Value)} {x : Int32} (d : decode Y.2.1 pc = .ok (.iload 8, 2)) (k : V E l Y Q q cs (pc + 2) (a0 :: a1 :: a2 :: a3 :: a4 :: a5 :: a6 :: a7 :: some (.int x) :: tl) (.int x :: st)) : V E l Y Q q cs pc (a0 :: a1 :: a2 :: a3 :: a4 :: a5 :: a6 :: a7 :: some (.int x) :: tl) st :=
  fun p e s m args below meth c C H locs lc hl hR hS => lv_iload C.1 C.2.1 d (hl.2.2 8 (.int x) rfl) (k p e s m args below meth c C H locs lc hl hR hS)
theorem V_ald8 {a0 a1 a2 a3 a4 a5 a6 a7 : Option Value} {tl : List (Option Value)} {x : Nat} (d : decode Y.2.1 pc = .ok (.aload 8, 2)) (k : V E l Y Q q cs (pc + 2) (a0 :: a1 :: a2 :: a3 :: a4 :: a5 :: a6 :: a7 :: some (.ref x) :: tl) (.ref x :: st)) : V E l Y Q q cs pc (a0 :: a1 :: a2 :: a3 :: a4 :: a5 :: a6 :: a7 :: some (.ref x) :: tl) st :=
  fun p e s m args below meth c C H locs lc hl hR hS => lv_aload C.1 C.2.1 d (hl.2.2 8 (.ref x) rfl) (k p e s m args below meth c C H locs lc hl hR hS)
theorem V_lld8 {a0 a1 a2 a3 a4 a5 a6 a7 : Option Value} {tl : List (Option Value)} {x : Int64} (d : decode Y.2.1 pc = .ok (.lload 8, 2)) (k : V E l Y Q q cs (pc + 2) (a0 :: a1 :: a2 :: a3 :: a4 :: a5 :: a6 :: a7 :: some (.long x) :: tl) (.long x :: st)) : V E l Y Q q cs pc (a0 :: a1 :: a2 :: a3 :: a4 :: a5 :: a6 :: a7 :: some (.long x) :: tl) st :=
  fun p e s m args below meth c C H locs lc hl hR hS => lv_lload C.1 C.2.1 d (hl.2.2 8 (.long x) rfl) (k p e s m args below meth c C H locs lc hl hR hS)
theorem V_ist8 {a0 a1 a2 a3 a4 a5 a6 a7 : Option Value} {o : Option Value} {tl : List (Option Value)} {x : Int32} (d : decode Y.2.1 pc = .ok (.istore 8, 2)) (ha : xnl a7 = true := by rfl) (hn : 8 < Y.2.2.1 := by decide) (k : V E l Y Q q cs (pc + 2) (a0 :: a1 :: a2 :: a3 :: a4 :: a5 :: a6 :: a7 :: some (.int x) :: tl) st) : V E l Y Q q cs pc (a0 :: a1 :: a2 :: a3 :: a4 :: a5 :: a6 :: a7 :: o :: tl) (.int x :: st) := VS_i d hn ((xSt1.cons a0 ((xSt1.cons a1 ((xSt1.cons a2 ((xSt1.cons a3 ((xSt1.cons a4 ((xSt1.cons a5 ((xSt1.cons a6 (xSt1_1 ha))))))))))))))) k
theorem V_ast8 {a0 a1 a2 a3 a4 a5 a6 a7 : Option Value} {o : Option Value} {tl : List (Option Value)} {x : Nat} (d : decode Y.2.1 pc = .ok (.astore 8, 2)) (ha : xnl a7 = true := by rfl) (hn : 8 < Y.2.2.1 := by decide) (k : V E l Y Q q cs (pc + 2) (a0 :: a1 :: a2 :: a3 :: a4 :: a5 :: a6 :: a7 :: some (.ref x) :: tl) st) : V E l Y Q q cs pc (a0 :: a1 :: a2 :: a3 :: a4 :: a5 :: a6 :: a7 :: o :: tl) (.ref x :: st) := VS_a d hn ((xSt1.cons a0 ((xSt1.cons a1 ((xSt1.cons a2 ((xSt1.cons a3 ((xSt1.cons a4 ((xSt1.cons a5 ((xSt1.cons a6 (xSt1_1 ha))))))))))))))) k
theorem V_inc8 {a0 a1 a2 a3 a4 a5 a6 a7 : Option Value} {tl : List (Option Value)} {n : Int} {x v : Int32} (d : decode Y.2.1 pc = .ok (.iinc 8 n, 3)) (ha : xnl a7 = true := by rfl) (hv : x + Int32.ofInt n = v) (k : V E l Y Q q cs (pc + 3) (a0 :: a1 :: a2 :: a3 :: a4 :: a5 :: a6 :: a7 :: some (.int v) :: tl) st) : V E l Y Q q cs pc (a0 :: a1 :: a2 :: a3 :: a4 :: a5 :: a6 :: a7 :: some (.int x) :: tl) st := VS_inc d rfl hv ((xSt1.cons a0 ((xSt1.cons a1 ((xSt1.cons a2 ((xSt1.cons a3 ((xSt1.cons a4 ((xSt1.cons a5 ((xSt1.cons a6 (xSt1_1 ha))))))))))))))) k
theorem V_lst8 {a0 a1 a2 a3 a4 a5 a6 a7 : Option Value} {o o2 : Option Value} {tl : List (Option Value)} {x : Int64} (d : decode Y.2.1 pc = .ok (.lstore 8, 2)) (ha : xnl a7 = true := by rfl) (hn : 8 + 1 < Y.2.2.1 := by decide) (k : V E l Y Q q cs (pc + 2) (a0 :: a1 :: a2 :: a3 :: a4 :: a5 :: a6 :: a7 :: some (.long x) :: none :: tl) st) : V E l Y Q q cs pc (a0 :: a1 :: a2 :: a3 :: a4 :: a5 :: a6 :: a7 :: o :: o2 :: tl) (.long x :: st) := VS_l d hn ((xSt2.cons a0 ((xSt2.cons a1 ((xSt2.cons a2 ((xSt2.cons a3 ((xSt2.cons a4 ((xSt2.cons a5 ((xSt2.cons a6 (xSt2_1 ha))))))))))))))) k
theorem V_ild9 {a0 a1 a2 a3 a4 a5 a6 a7 a8 : Option Value} {tl : List (Option Value)} {x : Int32} (d : decode Y.2.1 pc = .ok (.iload 9, 2)) (k : V E l Y Q q cs (pc + 2) (a0 :: a1 :: a2 :: a3 :: a4 :: a5 :: a6 :: a7 :: a8 :: some (.int x) :: tl) (.int x :: st)) : V E l Y Q q cs pc (a0 :: a1 :: a2 :: a3 :: a4 :: a5 :: a6 :: a7 :: a8 :: some (.int x) :: tl) st :=
  fun p e s m args below meth c C H locs lc hl hR hS => lv_iload C.1 C.2.1 d (hl.2.2 9 (.int x) rfl) (k p e s m args below meth c C H locs lc hl hR hS)
theorem V_ald9 {a0 a1 a2 a3 a4 a5 a6 a7 a8 : Option Value} {tl : List (Option Value)} {x : Nat} (d : decode Y.2.1 pc = .ok (.aload 9, 2)) (k : V E l Y Q q cs (pc + 2) (a0 :: a1 :: a2 :: a3 :: a4 :: a5 :: a6 :: a7 :: a8 :: some (.ref x) :: tl) (.ref x :: st)) : V E l Y Q q cs pc (a0 :: a1 :: a2 :: a3 :: a4 :: a5 :: a6 :: a7 :: a8 :: some (.ref x) :: tl) st :=
  fun p e s m args below meth c C H locs lc hl hR hS => lv_aload C.1 C.2.1 d (hl.2.2 9 (.ref x) rfl) (k p e s m args below meth c C H locs lc hl hR hS)
theorem V_lld9 {a0 a1 a2 a3 a4 a5 a6 a7 a8 : Option Value} {tl : List (Option Value)} {x : Int64} (d : decode Y.2.1 pc = .ok (.lload 9, 2)) (k : V E l Y Q q cs (pc + 2) (a0 :: a1 :: a2 :: a3 :: a4 :: a5 :: a6 :: a7 :: a8 :: some (.long x) :: tl) (.long x :: st)) : V E l Y Q q cs pc (a0 :: a1 :: a2 :: a3 :: a4 :: a5 :: a6 :: a7 :: a8 :: some (.long x) :: tl) st :=
  fun p e s m args below meth c C H locs lc hl hR hS => lv_lload C.1 C.2.1 d (hl.2.2 9 (.long x) rfl) (k p e s m args below meth c C H locs lc hl hR hS)
theorem V_ist9 {a0 a1 a2 a3 a4 a5 a6 a7 a8 : Option Value} {o : Option Value} {tl : List (Option Value)} {x : Int32} (d : decode Y.2.1 pc = .ok (.istore 9, 2)) (ha : xnl a8 = true := by rfl) (hn : 9 < Y.2.2.1 := by decide) (k : V E l Y Q q cs (pc + 2) (a0 :: a1 :: a2 :: a3 :: a4 :: a5 :: a6 :: a7 :: a8 :: some (.int x) :: tl) st) : V E l Y Q q cs pc (a0 :: a1 :: a2 :: a3 :: a4 :: a5 :: a6 :: a7 :: a8 :: o :: tl) (.int x :: st) := VS_i d hn ((xSt1.cons a0 ((xSt1.cons a1 ((xSt1.cons a2 ((xSt1.cons a3 ((xSt1.cons a4 ((xSt1.cons a5 ((xSt1.cons a6 ((xSt1.cons a7 (xSt1_1 ha))))))))))))))))) k
theorem V_ast9 {a0 a1 a2 a3 a4 a5 a6 a7 a8 : Option Value} {o : Option Value} {tl : List (Option Value)} {x : Nat} (d : decode Y.2.1 pc = .ok (.astore 9, 2)) (ha : xnl a8 = true := by rfl) (hn : 9 < Y.2.2.1 := by decide) (k : V E l Y Q q cs (pc + 2) (a0 :: a1 :: a2 :: a3 :: a4 :: a5 :: a6 :: a7 :: a8 :: some (.ref x) :: tl) st) : V E l Y Q q cs pc (a0 :: a1 :: a2 :: a3 :: a4 :: a5 :: a6 :: a7 :: a8 :: o :: tl) (.ref x :: st) := VS_a d hn ((xSt1.cons a0 ((xSt1.cons a1 ((xSt1.cons a2 ((xSt1.cons a3 ((xSt1.cons a4 ((xSt1.cons a5 ((xSt1.cons a6 ((xSt1.cons a7 (xSt1_1 ha))))))))))))))))) k
theorem V_inc9 {a0 a1 a2 a3 a4 a5 a6 a7 a8 : Option Value} {tl : List (Option Value)} {n : Int} {x v : Int32} (d : decode Y.2.1 pc = .ok (.iinc 9 n, 3)) (ha : xnl a8 = true := by rfl) (hv : x + Int32.ofInt n = v) (k : V E l Y Q q cs (pc + 3) (a0 :: a1 :: a2 :: a3 :: a4 :: a5 :: a6 :: a7 :: a8 :: some (.int v) :: tl) st) : V E l Y Q q cs pc (a0 :: a1 :: a2 :: a3 :: a4 :: a5 :: a6 :: a7 :: a8 :: some (.int x) :: tl) st := VS_inc d rfl hv ((xSt1.cons a0 ((xSt1.cons a1 ((xSt1.cons a2 ((xSt1.cons a3 ((xSt1.cons a4 ((xSt1.cons a5 ((xSt1.cons a6 ((xSt1.cons a7 (xSt1_1 ha))))))))))))))))) k
theorem V_lst9 {a0 a1 a2 a3 a4 a5 a6 a7 a8 : Option Value} {o o2 : Option Value} {tl : List (Option Value)} {x : Int64} (d : decode Y.2.1 pc = .ok (.lstore 9, 2)) (ha : xnl a8 = true := by rfl) (hn : 9 + 1 < Y.2.2.1 := by decide) (k : V E l Y Q q cs (pc + 2) (a0 :: a1 :: a2 :: a3 :: a4 :: a5 :: a6 :: a7 :: a8 :: some (.long x) :: none :: tl) st) : V E l Y Q q cs pc (a0 :: a1 :: a2 :: a3 :: a4 :: a5 :: a6 :: a7 :: a8 :: o :: o2 :: tl) (.long x :: st) := VS_l d hn ((xSt2.cons a0 ((xSt2.cons a1 ((xSt2.cons a2 ((xSt2.cons a3 ((xSt2.cons a4 ((xSt2.cons a5 ((xSt2.cons a6 ((xSt2.cons a7 (xSt2_1 ha))))))))))))))))) k
theorem V_ild10 {a0 a1 a2 a3 a4 a5 a6 a7 a8 a9 : Option Value} {tl : List (Option Value)} {x : Int32} (d : decode Y.2.1 pc = .ok (.iload 10, 2)) (k : V E l Y Q q cs (pc + 2) (a0 :: a1 :: a2 :: a3 :: a4 :: a5 :: a6 :: a7 :: a8 :: a9 :: some (.int x) :: tl) (.int x :: st)) : V E l Y Q q cs pc (a0 :: a1 :: a2 :: a3 :: a4 :: a5 :: a6 :: a7 :: a8 :: a9 :: some (.int x) :: tl) st :=
  fun p e s m args below meth c C H locs lc hl hR hS => lv_iload C.1 C.2.1 d (hl.2.2 10 (.int x) rfl) (k p e s m args below meth c C H locs lc hl hR hS)
theorem V_ald10 {a0 a1 a2 a3 a4 a5 a6 a7 a8 a9 : Option Value} {tl : List (Option Value)} {x : Nat} (d : decode Y.2.1 pc = .ok (.aload 10, 2)) (k : V E l Y Q q cs (pc + 2) (a0 :: a1 :: a2 :: a3 :: a4 :: a5 :: a6 :: a7 :: a8 :: a9 :: some (.ref x) :: tl) (.ref x :: st)) : V E l Y Q q cs pc (a0 :: a1 :: a2 :: a3 :: a4 :: a5 :: a6 :: a7 :: a8 :: a9 :: some (.ref x) :: tl) st :=
  fun p e s m args below meth c C H locs lc hl hR hS => lv_aload C.1 C.2.1 d (hl.2.2 10 (.ref x) rfl) (k p e s m args below meth c C H locs lc hl hR hS)
theorem V_lld10 {a0 a1 a2 a3 a4 a5 a6 a7 a8 a9 : Option Value} {tl : List (Option Value)} {x : Int64} (d : decode Y.2.1 pc = .ok (.lload 10, 2)) (k : V E l Y Q q cs (pc + 2) (a0 :: a1 :: a2 :: a3 :: a4 :: a5 :: a6 :: a7 :: a8 :: a9 :: some (.long x) :: tl) (.long x :: st)) : V E l Y Q q cs pc (a0 :: a1 :: a2 :: a3 :: a4 :: a5 :: a6 :: a7 :: a8 :: a9 :: some (.long x) :: tl) st :=
  fun p e s m args below meth c C H locs lc hl hR hS => lv_lload C.1 C.2.1 d (hl.2.2 10 (.long x) rfl) (k p e s m args below meth c C H locs lc hl hR hS)
theorem V_ist10 {a0 a1 a2 a3 a4 a5 a6 a7 a8 a9 : Option Value} {o : Option Value} {tl : List (Option Value)} {x : Int32} (d : decode Y.2.1 pc = .ok (.istore 10, 2)) (ha : xnl a9 = true := by rfl) (hn : 10 < Y.2.2.1 := by decide) (k : V E l Y Q q cs (pc + 2) (a0 :: a1 :: a2 :: a3 :: a4 :: a5 :: a6 :: a7 :: a8 :: a9 :: some (.int x) :: tl) st) : V E l Y Q q cs pc (a0 :: a1 :: a2 :: a3 :: a4 :: a5 :: a6 :: a7 :: a8 :: a9 :: o :: tl) (.int x :: st) := VS_i d hn ((xSt1.cons a0 ((xSt1.cons a1 ((xSt1.cons a2 ((xSt1.cons a3 ((xSt1.cons a4 ((xSt1.cons a5 ((xSt1.cons a6 ((xSt1.cons a7 ((xSt1.cons a8 (xSt1_1 ha))))))))))))))))))) k
theorem V_ast10 {a0 a1 a2 a3 a4 a5 a6 a7 a8 a9 : Option Value} {o : Option Value} {tl : List (Option Value)} {x : Nat} (d : decode Y.2.1 pc = .ok (.astore 10, 2)) (ha : xnl a9 = true := by rfl) (hn : 10 < Y.2.2.1 := by decide) (k : V E l Y Q q cs (pc + 2) (a0 :: a1 :: a2 :: a3 :: a4 :: a5 :: a6 :: a7 :: a8 :: a9 :: some (.ref x) :: tl) st) : V E l Y Q q cs pc (a0 :: a1 :: a2 :: a3 :: a4 :: a5 :: a6 :: a7 :: a8 :: a9 :: o :: tl) (.ref x :: st) := VS_a d hn ((xSt1.cons a0 ((xSt1.cons a1 ((xSt1.cons a2 ((xSt1.cons a3 ((xSt1.cons a4 ((xSt1.cons a5 ((xSt1.cons a6 ((xSt1.cons a7 ((xSt1.cons a8 (xSt1_1 ha))))))))))))))))))) k
theorem V_inc10 {a0 a1 a2 a3 a4 a5 a6 a7 a8 a9 : Option Value} {tl : List (Option Value)} {n : Int} {x v : Int32} (d : decode Y.2.1 pc = .ok (.iinc 10 n, 3)) (ha : xnl a9 = true := by rfl) (hv : x + Int32.ofInt n = v) (k : V E l Y Q q cs (pc + 3) (a0 :: a1 :: a2 :: a3 :: a4 :: a5 :: a6 :: a7 :: a8 :: a9 :: some (.int v) :: tl) st) : V E l Y Q q cs pc (a0 :: a1 :: a2 :: a3 :: a4 :: a5 :: a6 :: a7 :: a8 :: a9 :: some (.int x) :: tl) st := VS_inc d rfl hv ((xSt1.cons a0 ((xSt1.cons a1 ((xSt1.cons a2 ((xSt1.cons a3 ((xSt1.cons a4 ((xSt1.cons a5 ((xSt1.cons a6 ((xSt1.cons a7 ((xSt1.cons a8 (xSt1_1 ha))))))))))))))))))) k
theorem V_lst10 {a0 a1 a2 a3 a4 a5 a6 a7 a8 a9 : Option Value} {o o2 : Option Value} {tl : List (Option Value)} {x : Int64} (d : decode Y.2.1 pc = .ok (.lstore 10, 2)) (ha : xnl a9 = true := by rfl) (hn : 10 + 1 < Y.2.2.1 := by decide) (k : V E l Y Q q cs (pc + 2) (a0 :: a1 :: a2 :: a3 :: a4 :: a5 :: a6 :: a7 :: a8 :: a9 :: some (.long x) :: none :: tl) st) : V E l Y Q q cs pc (a0 :: a1 :: a2 :: a3 :: a4 :: a5 :: a6 :: a7 :: a8 :: a9 :: o :: o2 :: tl) (.long x :: st) := VS_l d hn ((xSt2.cons a0 ((xSt2.cons a1 ((xSt2.cons a2 ((xSt2.cons a3 ((xSt2.cons a4 ((xSt2.cons a5 ((xSt2.cons a6 ((xSt2.cons a7 ((xSt2.cons a8 (xSt2_1 ha))))))))))))))))))) k
end VL
end
section
/-! ===== the V layer: memory ===== -/
section VM
variable {E : xEnv} {l : Launch} {Y : xY} {Q : xQ} {cs : Nat × Nat} {pc : Nat} {ls : List (Option Value)} {st : List Value}
variable {x : Bool} {n : Nat} {K : xKnd} {G : xRef} {M : xMem} {L : xLng}
def xup {α : Type} (M : Nat → Nat → α) (a i : Nat) (v : α) : Nat → Nat → α := fun a' i' => if a' = a ∧ i' = i then v else M a' i'
theorem xup_s {α : Type} {M : Nat → Nat → α} {a i : Nat} {v : α} : xup M a i v a i = v := by simp [xup]
theorem xup_n {α : Type} {M : Nat → Nat → α} {a i a' i' : Nat} {v : α} (h : ¬ (a' = a ∧ i' = i)) : xup M a i v a' i' = M a' i' := by simp only [xup, if_neg h]
theorem xup_k {α : Type} {M : Nat → Nat → α} {a i a' i' : Nat} {v : α} (h : a' ≠ a) : xup M a i v a' i' = M a' i' := xup_n fun q => h q.1
theorem xup_i {α : Type} {M : Nat → Nat → α} {a i a' i' : Nat} {v : α} (h : i' ≠ i) : xup M a i v a' i' = M a' i' := xup_n fun q => h q.2
theorem xCell.kept {H H1 : Heap} {k : Nat} {G' : xRef} {M' : xMem} {L' : xLng} (h : xCell E K G M L H k) (hq : H1[xAd E k]? = H[xAd E k]?) (hv : ∀ i, xVal E K G' M' L' k i = xVal E K G M L k i) : xCell E K G' M' L' H1 k := by
  have e : xVal E K G' M' L' k = xVal E K G M L k := funext hv
  refine ⟨fun hk => ?_, fun h1 h2 => ?_⟩
  · obtain ⟨r, a1, a2, a3⟩ := h.1 hk
    exact ⟨r, a1, a2, by rw [e]; exact a3.kept hq⟩
  · rw [hq, e]; exact h.2 h1 h2
theorem xVal_congr {G' : xRef} {M' : xMem} {L' : xLng} {k i : Nat} (h1 : G' k i = G k i) (h2 : M' k i = M k i) (h3 : L' k i = L k i) : xVal E K G' M' L' k i = xVal E K G M L k i := by
  unfold xVal; rw [h1, h2, h3]
theorem xRel.put {H H1 : Heap} {a t N : Nat} {G' : xRef} {M' : xMem} {L' : xLng} (h : xRel E (x, n, K, G, M, L) H) (ha : xIs n K a t N) (hz : H1.size = H.size) (hq : ∀ z : Nat, z ≠ xAd E a → H1[z]? = H[z]?)
    (hv : ∀ k i, k ≠ a → G' k i = G k i ∧ M' k i = M k i ∧ L' k i = L k i) (hc : xCell E K G' M' L' H1 a) : xRel E (x, n, K, G', M', L') H1 := by
  refine ⟨fun k h3 hk => ?_, h.2.1, by rw [hz]; exact h.2.2.1, by rw [hz]; exact h.2.2.2⟩
  by_cases e : k = a
  · rw [e]; exact hc
  · exact (h.1 k h3 hk).kept (hq _ fun z => e (xAd_inj h3 ha.1 z)) fun i => xVal_congr (hv k i e).1 (hv k i e).2.1 (hv k i e).2.2
/-- a field: class c, slot k, of the constant idx of the class own -/
def xFld (own : String) (idx c k : Nat) : Prop := ∃ r : vw_C, vwCl[c]? = some r ∧ k < r.2.2 ∧ (∀ w ∈ u_ws r.1 r.2.1 r.2.2, w ∈ xTT) ∧
  (Cond.fieldLink own idx (r.2.1 k).1 (r.2.1 k).2.1 (r.2.1 k).2.2.1 ∈ xTT ∨ ∃ host : String, Cond.fieldLinkNest own idx (r.2.1 k).1 (r.2.1 k).2.1 (r.2.1 k).2.2.1 host ∈ xTT)
theorem vwCl_lt {c : Nat} {r : vw_C} (h : vwCl[c]? = some r) : c < 10 := by
  have := (List.getElem?_eq_some_iff.mp h).1
  simp [vwCl] at this
  omega
theorem V_getf {a c N k idx : Nat} (f : xFld Y.1.cls idx c k) (d : decode Y.2.1 pc = .ok (.getfield idx, 3)) (h : xIs n K a c N) (kk : ∀ v, v = xVal E K G M L a k → ∀ p e s m args below meth cc, xCtx E Y p s m args meth cc → ∀ H locs lc, xHas E lc Y.2.2.1 ls → xRel E (x, n, K, G, M, L) H → va_S (xA E) s.heap H locs → W p l e Y.2.2.2.2.1 s m args below meth cc H locs cs.1 cs.2 (Q s args below) (F0 m (pc + 3) lc (v :: st.map (xv E)))) :
    V E l Y Q (x, n, K, G, M, L) cs pc ls (.ref a :: st) := by
  intro p e s m args below meth cc C H locs lc hl hR hS
  obtain ⟨r, h1, hk, hin, hlink⟩ := f
  obtain ⟨hx, hb, hml, hr, hlk, hnm, hown, hts, hKn, htab⟩ := id C
  obtain ⟨r2, g1, g2, cell, q1, q2, q3, q4⟩ := (hR.1 a h.1 h.2.1).1 (show (K a).1 < 10 by rw [h.2.2.1]; exact vwCl_lt h1)
  dsimp only at g1 g2 q2 q4
  rw [h.2.2.1] at g1 g2 q2 q4
  cases h1.symm.trans g1
  obtain ⟨hSl, hfc, kC, hkC, hkind⟩ := hKn.1.1 c r h1
  obtain ⟨cf, kf, fi, fd, hi, hsl⟩ := hSl k hk
  have hst := (u_facts hfc hkC (u_lays hts hin hk) hi).1
  have hsl2 : cell.slots[fd.slot]? = some (xVal E K G M L a k) := by rw [hsl]; exact q4 k hk
  have kk' := kk _ rfl p e s m args below meth cc C H locs lc hl hR hS
  rcases hlink with hl1 | ⟨host, hl1⟩
  · exact W.getf hx hb hown (hts _ hl1) hi hst q1 (by rw [q3]; exact fun z => by cases z) hsl2 rfl rfl d kk'
  · exact va_Wgetf hx hb hown (hts _ hl1) hi hst q1 (by rw [q3]; exact fun z => by cases z) hsl2 rfl rfl d kk'
theorem V_getI {a c N k idx : Nat} (f : xFld Y.1.cls idx c k) (d : decode Y.2.1 pc = .ok (.getfield idx, 3)) (h : xIs n K a c N) (ht : xTy c k = 0 := by rfl) (kk : V E l Y Q (x, n, K, G, M, L) cs (pc + 3) ls (.int (M a k) :: st)) : V E l Y Q (x, n, K, G, M, L) cs pc ls (.ref a :: st) :=
  V_getf f d h fun v hv p e s m args below meth cc C H locs lc hl hR hS => by
    have e1 : v = .int (M a k) := by rw [hv]; unfold xVal; rw [h.2.2.1, if_pos ht]
    subst e1
    exact kk p e s m args below meth cc C H locs lc hl hR hS
theorem V_getL {a c N k idx : Nat} (f : xFld Y.1.cls idx c k) (d : decode Y.2.1 pc = .ok (.getfield idx, 3)) (h : xIs n K a c N) (ht : xTy c k = 1 := by rfl) (kk : V E l Y Q (x, n, K, G, M, L) cs (pc + 3) ls (.long (L a k) :: st)) : V E l Y Q (x, n, K, G, M, L) cs pc ls (.ref a :: st) :=
  V_getf f d h fun v hv p e s m args below meth cc C H locs lc hl hR hS => by
    have e1 : v = .long (L a k) := by rw [hv]; unfold xVal; rw [h.2.2.1, if_neg (by rw [ht]; decide), if_pos ht]
    subst e1
    exact kk p e s m args below meth cc C H locs lc hl hR hS
theorem V_getR {a b c N k idx : Nat} (f : xFld Y.1.cls idx c k) (d : decode Y.2.1 pc = .ok (.getfield idx, 3)) (h : xIs n K a c N) (hg : G a k = some b) (ht : xTy c k = 2 := by rfl) (kk : V E l Y Q (x, n, K, G, M, L) cs (pc + 3) ls (.ref b :: st)) : V E l Y Q (x, n, K, G, M, L) cs pc ls (.ref a :: st) :=
  V_getf f d h fun v hv p e s m args below meth cc C H locs lc hl hR hS => by
    have e1 : v = .ref (xAd E b) := by rw [hv]; unfold xVal; rw [h.2.2.1, if_neg (by rw [ht]; decide), if_neg (by rw [ht]; decide), hg]; rfl
    subst e1
    exact kk p e s m args below meth cc C H locs lc hl hR hS
/-- a field that is written -/
def xFldW (own : String) (idx c k : Nat) (ty : FieldType) (fin : Bool) : Prop := ∃ (r : vw_C) (ty0 : Nat → FieldType), vwCl[c]? = some r ∧ k < r.2.2 ∧ (∀ w ∈ u_ws r.1 r.2.1 r.2.2, w ∈ xTT) ∧
  (Cond.fieldLink own idx (r.2.1 k).1 (r.2.1 k).2.1 (r.2.1 k).2.2.1 ∈ xTT ∨ (fin = false ∧ ∃ host : String, Cond.fieldLinkNest own idx (r.2.1 k).1 (r.2.1 k).2.1 (r.2.1 k).2.2.1 host ∈ xTT)) ∧
  (∀ k, k < r.2.2 → parseFieldDescriptor (r.2.1 k).2.2.1 = some (ty0 k)) ∧ (∀ a, a < r.2.2 → ∀ b, b < r.2.2 → a ≠ b → (r.2.1 a).2.1 ≠ (r.2.1 b).2.1) ∧ ty0 k = ty ∧ (r.2.1 k).2.2.2 = fin ∧ (fin = true → (r.2.1 k).1 = own)
theorem V_putf {a c N k idx : Nat} {ty : FieldType} {fin : Bool} {v : Value} {G' : xRef} {M' : xMem} {L' : xLng} (f : xFldW Y.1.cls idx c k ty fin) (d : decode Y.2.1 pc = .ok (.putfield idx, 3)) (h : xIs n K a c N) (hfin : fin = true → Y.1.name = "<init>")
    (hn : narrow ty (xv E v) = xv E v) (hfit : fits ty (xv E v) = true) (hv : ∀ k' i, k' ≠ a → G' k' i = G k' i ∧ M' k' i = M k' i ∧ L' k' i = L k' i) (hv2 : ∀ i, i ≠ k → xVal E K G' M' L' a i = xVal E K G M L a i) (hv3 : xVal E K G' M' L' a k = xv E v)
    (kk : V E l Y Q (x, n, K, G', M', L') cs (pc + 3) ls st) : V E l Y Q (x, n, K, G, M, L) cs pc ls (v :: .ref a :: st) := by
  intro p e s m args below meth cc C H locs lc hl hR hS
  obtain ⟨r, ty0, h1, hk, hin, hlink, hty, hnmd, htk, hf, hdecl⟩ := f
  obtain ⟨hx, hb, hml, hr, hlk, hnm, hown, hts, hKn, htab⟩ := id C
  obtain ⟨r2, g1, g2, cell, q1, q2, q3, q4⟩ := (hR.1 a h.1 h.2.1).1 (show (K a).1 < 10 by rw [h.2.2.1]; exact vwCl_lt h1)
  dsimp only at g1 g2 q2 q4
  rw [h.2.2.1] at g1 g2 q2 q4
  cases h1.symm.trans g1
  have hap := va_apart (D := E.1) (cl := vwCl) (own := Y.1.cls) (C := r.1) (T := r.2.1) (N := r.2.2) (ci := c) hts hin ty0 hty hnmd hKn.1 h1
  obtain ⟨hSl, hfc, kC, hkC, hkind⟩ := hKn.1.1 c r h1
  obtain ⟨cf, kf, fi, fd, hi, hsl⟩ := hSl k hk
  have hst := (u_facts hfc hkC (u_lays hts hin hk) hi).1
  have hd : parseFieldDescriptor (r.2.1 k).2.2.1 = some ty := by rw [hty k hk, htk]
  have hlay := hts _ (hin _ (u_in_lay hk))
  have hlt : fd.slot < cell.slots.size := by rw [hsl]; exact k2_hasslot (q4 k hk)
  have A1 : xA E (xAd E a) := xAd_A h.1
  have fin' : ∀ H' : Heap, H'[xAd E a]? = some (cell.setSlot fd.slot (xv E v)) → H'.size = H.size → (∀ z, z ≠ xAd E a → H'[z]? = H[z]?) →
      W p l e Y.2.2.2.2.1 s m args below meth cc H' (locs ++ [⟨xAd E a, fd.slot⟩]) cs.1 cs.2 (Q s args below) (F0 m (pc + 3) lc (st.map (xv E))) := by
    intro H' e1 e2 e3
    refine kk p e s m args below meth cc C H' _ lc hl (hR.put h e2 e3 hv ⟨fun _ => ?_, fun z => ?_⟩) (hS.put e2 e3 A1)
    · rw [h.2.2.1]
      refine ⟨r, h1, g2, ?_⟩
      rw [hsl] at e1
      refine t_OB.to (V := updV (xVal E K G M L a) k (xv E v)) ⟨_, e1, q2, q3, t_set q4 hap hk (xv E v)⟩ (fun j hj => ?_)
      unfold updV
      by_cases ej : j = k
      · rw [if_pos ej, ej]; exact hv3.symm
      · rw [if_neg ej]; exact (hv2 j ej).symm
    · rw [h.2.2.1] at z
      have := vwCl_lt h1
      exact absurd z (by dsimp only; omega)
  unfold u_lay at hlay
  cases fin with
  | false =>
    rw [if_neg (by rw [hf]; decide)] at hlay
    have h6 := u_store hfc hkC hkind hlay hi hd hn hfit
    rcases hlink with hl1 | ⟨-, host, hl1⟩
    · exact W.putK hx hb (f := fd) ⟨hown, hts _ hl1, ⟨_, _, _, hi⟩, hst⟩ (by rw [q2]; exact h6) q1 q3 hlt rfl rfl d fin'
    · exact va_WputK hx hb (f := fd) hown (hts _ hl1) hi hst (by rw [q2]; exact h6) q1 q3 hlt rfl rfl d fin'
  | true =>
    rw [if_pos hf] at hlay
    have hcf : m.cls = cf := by
      obtain ⟨_, _, c', _, _, _, -, -, hf', -, -, -, hown2, -⟩ := Cond.laysFinal_spec hlay
      have e1 : c' = cf := by have := hi.symm.trans hf'; simp at this; exact this.1.symm
      rw [hdecl rfl] at hown2
      rw [← e1]; exact Option.some.inj (hown.symm.trans hown2)
    have h6 := u_fits hfc hkC hkind (Or.inr hlay) hi hd hn hfit
    rcases hlink with hl1 | ⟨z, -⟩
    · exact W.putFinK hx hb hown (hts _ hl1) hi hst hcf (by rw [hnm]; exact hfin rfl) (by rw [q2]; exact h6) q1 q3 hlt rfl rfl d fin'
    · cases z
theorem xVal_upM {a i : Nat} {v : Int32} {j : Nat} (hj : j ≠ i) : xVal E K G (xup M a i v) L a j = xVal E K G M L a j := xVal_congr rfl (xup_i hj) rfl
theorem V_putI {a c N k idx : Nat} {v : Int32} (f : xFldW Y.1.cls idx c k .int false) (d : decode Y.2.1 pc = .ok (.putfield idx, 3)) (h : xIs n K a c N) (ht : xTy c k = 0 := by rfl)
    (kk : V E l Y Q (x, n, K, G, xup M a k v, L) cs (pc + 3) ls st) : V E l Y Q (x, n, K, G, M, L) cs pc ls (.int v :: .ref a :: st) :=
  V_putf (G' := G) (M' := xup M a k v) (L' := L) f d h (fun z => by cases z) rfl rfl (fun k' i hk => ⟨rfl, xup_k hk, rfl⟩) (fun i hi => xVal_upM hi) (by unfold xVal; rw [h.2.2.1, if_pos ht, xup_s]; rfl) kk
theorem V_putZ {a c N k idx : Nat} {v : Int32} (f : xFldW Y.1.cls idx c k .boolean false) (d : decode Y.2.1 pc = .ok (.putfield idx, 3)) (h : xIs n K a c N) (hv : v = 0 ∨ v = 1) (ht : xTy c k = 0 := by rfl)
    (kk : V E l Y Q (x, n, K, G, xup M a k v, L) cs (pc + 3) ls st) : V E l Y Q (x, n, K, G, M, L) cs pc ls (.int v :: .ref a :: st) :=
  V_putf (G' := G) (M' := xup M a k v) (L' := L) f d h (fun z => by cases z) (by rcases hv with rfl | rfl <;> rfl) (by rcases hv with rfl | rfl <;> rfl) (fun k' i hk => ⟨rfl, xup_k hk, rfl⟩) (fun i hi => xVal_upM hi) (by unfold xVal; rw [h.2.2.1, if_pos ht, xup_s]; rfl) kk
theorem V_putL {a c N k idx : Nat} {v : Int64} (f : xFldW Y.1.cls idx c k .long false) (d : decode Y.2.1 pc = .ok (.putfield idx, 3)) (h : xIs n K a c N) (ht : xTy c k = 1 := by rfl)
    (kk : V E l Y Q (x, n, K, G, M, xup L a k v) cs (pc + 3) ls st) : V E l Y Q (x, n, K, G, M, L) cs pc ls (.long v :: .ref a :: st) :=
  V_putf (G' := G) (M' := M) (L' := xup L a k v) f d h (fun z => by cases z) rfl rfl (fun k' i hk => ⟨rfl, rfl, xup_k hk⟩) (fun i hi => xVal_congr rfl rfl (xup_i hi)) (by unfold xVal; rw [h.2.2.1, if_neg (by rw [ht]; decide), if_pos ht, xup_s]; rfl) kk
theorem V_putR {a b c N k idx : Nat} {ty : FieldType} (f : xFldW Y.1.cls idx c k ty true) (d : decode Y.2.1 pc = .ok (.putfield idx, 3)) (h : xIs n K a c N) (hi : Y.1.name = "<init>") (hty : (∃ t, ty = .object t) ∨ ∃ t, ty = .array t) (ht : xTy c k = 2 := by rfl)
    (kk : V E l Y Q (x, n, K, xup G a k (some b), M, L) cs (pc + 3) ls st) : V E l Y Q (x, n, K, G, M, L) cs pc ls (.ref b :: .ref a :: st) :=
  V_putf (G' := xup G a k (some b)) (M' := M) (L' := L) f d h (fun _ => hi) (by rcases hty with ⟨t, rfl⟩ | ⟨t, rfl⟩ <;> rfl) (by rcases hty with ⟨t, rfl⟩ | ⟨t, rfl⟩ <;> rfl) (fun k' i hk => ⟨xup_k hk, rfl, rfl⟩) (fun i hi => xVal_congr (xup_i hi) rfl rfl) (by unfold xVal; rw [h.2.2.1, if_neg (by rw [ht]; decide), if_neg (by rw [ht]; decide), xup_s]; rfl) kk
/-! arrays -/
theorem xIs.arr {a t N : Nat} {H : Heap} (h : xIs n K a t N) (hR : xRel E (x, n, K, G, M, L) H) (h1 : 10 ≤ t) (h2 : t < 14) : H[xAd E a]? = some (arrV (E.2.1 t) N (xVal E K G M L a)) := by
  have := (hR.1 a h.1 h.2.1).2
  dsimp only at this
  rw [h.2.2.1] at this
  exact this h1 h2
theorem xTyl_of {s : State} (h : xKn E s) : (ArrOfT s (E.2.1 10) .int ∧ va_RA s (E.2.1 10) .int) ∧ (ArrOfT s (E.2.1 11) .long ∧ va_RA s (E.2.1 11) .long) ∧ (ArrOfT s (E.2.1 12) .boolean ∧ va_RA s (E.2.1 12) .boolean) ∧ (ArrOfT s (E.2.1 13) (.object RX3) ∧ va_RA s (E.2.1 13) (.object RX3)) :=
  ⟨h.1.2 0 _ rfl, h.1.2 1 _ rfl, h.1.2 2 _ rfl, h.1.2 3 _ rfl⟩
theorem xin {i : Int32} {j N : Nat} (hi : i = nI j) (hj : j < N) (hN : N < 2 ^ 31) : ¬ (i < 0 ∨ N ≤ i.toNatClampNeg) ∧ i.toNatClampNeg = j := by
  subst hi
  exact ⟨nI_in hj hN, nI_clamp (by omega)⟩
theorem V_iald {a N j : Nat} {i : Int32} (d : decode Y.2.1 pc = .ok (.iaload, 1)) (h : xIs n K a 10 N) (hi : i = nI j) (hj : j < N) (kk : V E l Y Q (x, n, K, G, M, L) cs (pc + 1) ls (.int (M a j) :: st)) : V E l Y Q (x, n, K, G, M, L) cs pc ls (.int i :: .ref a :: st) := by
  intro p e s m args below meth cc C H locs lc hl hR hS
  obtain ⟨g1, g2⟩ := xin hi hj h.2.2.2
  have hc := h.arr hR (by omega) (by omega)
  exact W.iald (v := .int (M a j)) C.1 C.2.1 hc ((xTyl_of C.2.2.2.2.2.2.2.2.1).1.1 N _) (fun z => by cases z) (by rw [arrV_size]; exact g1) (by rw [g2, arrV_read _ _ hj]; unfold xVal; rw [h.2.2.1]; rfl) rfl rfl d (kk p e s m args below meth cc C H locs lc hl hR hS)
theorem V_bald {a N j : Nat} {i : Int32} (d : decode Y.2.1 pc = .ok (.baload, 1)) (h : xIs n K a 12 N) (hi : i = nI j) (hj : j < N) (kk : V E l Y Q (x, n, K, G, M, L) cs (pc + 1) ls (.int (M a j) :: st)) : V E l Y Q (x, n, K, G, M, L) cs pc ls (.int i :: .ref a :: st) := by
  intro p e s m args below meth cc C H locs lc hl hR hS
  obtain ⟨g1, g2⟩ := xin hi hj h.2.2.2
  have hc := h.arr hR (by omega) (by omega)
  exact W.zald (v := .int (M a j)) C.1 C.2.1 hc ((xTyl_of C.2.2.2.2.2.2.2.2.1).2.2.1.1 N _) (fun z => by cases z) (by rw [arrV_size]; exact g1) (by rw [g2, arrV_read _ _ hj]; unfold xVal; rw [h.2.2.1]; rfl) rfl rfl d (kk p e s m args below meth cc C H locs lc hl hR hS)
theorem V_lald {a N j : Nat} {i : Int32} (d : decode Y.2.1 pc = .ok (.laload, 1)) (h : xIs n K a 11 N) (hi : i = nI j) (hj : j < N) (kk : V E l Y Q (x, n, K, G, M, L) cs (pc + 1) ls (.long (L a j) :: st)) : V E l Y Q (x, n, K, G, M, L) cs pc ls (.int i :: .ref a :: st) := by
  intro p e s m args below meth cc C H locs lc hl hR hS
  obtain ⟨g1, g2⟩ := xin hi hj h.2.2.2
  have hc := h.arr hR (by omega) (by omega)
  exact W.lald (v := .long (L a j)) C.1 C.2.1 hc ((xTyl_of C.2.2.2.2.2.2.2.2.1).2.1.1 N _) (fun z => by cases z) (by rw [arrV_size]; exact g1) (by rw [g2, arrV_read _ _ hj]; unfold xVal; rw [h.2.2.1]; rfl) rfl rfl d (kk p e s m args below meth cc C H locs lc hl hR hS)
theorem V_alen {a t N : Nat} (d : decode Y.2.1 pc = .ok (.arraylength, 1)) (h : xIs n K a t N) (h1 : 10 ≤ t := by decide) (h2 : t < 14 := by decide) (kk : V E l Y Q (x, n, K, G, M, L) cs (pc + 1) ls (.int (nI N) :: st)) : V E l Y Q (x, n, K, G, M, L) cs pc ls (.ref a :: st) := by
  intro p e s m args below meth cc C H locs lc hl hR hS
  have hc := h.arr hR h1 h2
  obtain ⟨t1, t2, t3, t4⟩ := xTyl_of C.2.2.2.2.2.2.2.2.1
  have hk := kk p e s m args below meth cc C H locs lc hl hR hS
  have ht : t = 10 ∨ t = 11 ∨ t = 12 ∨ t = 13 := by omega
  rcases ht with rfl | rfl | rfl | rfl
  · exact W.alen (n := nI N) C.1 C.2.1 hc (t1.1 N _) (by rw [arrV_size]; rfl) rfl rfl d hk
  · exact W.alen (n := nI N) C.1 C.2.1 hc (t2.1 N _) (by rw [arrV_size]; rfl) rfl rfl d hk
  · exact W.alen (n := nI N) C.1 C.2.1 hc (t3.1 N _) (by rw [arrV_size]; rfl) rfl rfl d hk
  · exact W.alen (n := nI N) C.1 C.2.1 hc (t4.1 N _) (by rw [arrV_size]; rfl) rfl rfl d hk
theorem xRel.arr {H H1 : Heap} {a t N j : Nat} {v : Value} {G' : xRef} {M' : xMem} {L' : xLng} (hR : xRel E (x, n, K, G, M, L) H) (h : xIs n K a t N) (h1 : 10 ≤ t) (hz : H1.size = H.size) (hq : ∀ z : Nat, z ≠ xAd E a → H1[z]? = H[z]?)
    (hc : H1[xAd E a]? = some ((arrV (E.2.1 t) N (xVal E K G M L a)).setSlot j v)) (hv : ∀ k i, k ≠ a → G' k i = G k i ∧ M' k i = M k i ∧ L' k i = L k i) (hv2 : ∀ i, xVal E K G' M' L' a i = if i = j then v else xVal E K G M L a i) : xRel E (x, n, K, G', M', L') H1 := by
  refine hR.put h hz hq hv ⟨fun z => ?_, fun _ _ => ?_⟩
  · rw [h.2.2.1] at z; exact absurd z (by dsimp only; omega)
  · rw [hc, h.2.2.1, arrV_store]
    refine congrArg (fun f => some (arrV (E.2.1 t) N f)) (funext fun i => ?_)
    rw [hv2 i]; rfl
theorem V_iast {a N j : Nat} {i v : Int32} (d : decode Y.2.1 pc = .ok (.iastore, 1)) (h : xIs n K a 10 N) (hi : i = nI j) (hj : j < N) (kk : V E l Y Q (x, n, K, G, xup M a j v, L) cs (pc + 1) ls st) : V E l Y Q (x, n, K, G, M, L) cs pc ls (.int v :: .int i :: .ref a :: st) := by
  intro p e s m args below meth cc C H locs lc hl hR hS
  obtain ⟨g1, g2⟩ := xin hi hj h.2.2.2
  have hc := h.arr hR (by omega) (by omega)
  refine W.iast C.1 C.2.1 hc ((xTyl_of C.2.2.2.2.2.2.2.2.1).1.1 N _) (fun z => by cases z) (by rw [arrV_size]; exact g1) rfl rfl d fun H' e1 e2 e3 => ?_
  rw [g2] at e1 ⊢
  refine kk p e s m args below meth cc C H' _ lc hl (hR.arr h (by omega) e2 e3 e1 (fun k i hk => ⟨rfl, xup_k hk, rfl⟩) fun i => ?_) (hS.put e2 e3 (xAd_A h.1))
  unfold xVal
  rw [h.2.2.1]
  show Value.int _ = _
  by_cases e : i = j
  · rw [if_pos e, e, xup_s]
  · rw [if_neg e, xup_i e]; rfl
theorem V_last {a N j : Nat} {i : Int32} {v : Int64} (d : decode Y.2.1 pc = .ok (.lastore, 1)) (h : xIs n K a 11 N) (hi : i = nI j) (hj : j < N) (kk : V E l Y Q (x, n, K, G, M, xup L a j v) cs (pc + 1) ls st) : V E l Y Q (x, n, K, G, M, L) cs pc ls (.long v :: .int i :: .ref a :: st) := by
  intro p e s m args below meth cc C H locs lc hl hR hS
  obtain ⟨g1, g2⟩ := xin hi hj h.2.2.2
  have hc := h.arr hR (by omega) (by omega)
  refine W.last C.1 C.2.1 hc ((xTyl_of C.2.2.2.2.2.2.2.2.1).2.1.1 N _) (fun z => by cases z) (by rw [arrV_size]; exact g1) rfl rfl d fun H' e1 e2 e3 => ?_
  rw [g2] at e1 ⊢
  refine kk p e s m args below meth cc C H' _ lc hl (hR.arr h (by omega) e2 e3 e1 (fun k i hk => ⟨rfl, rfl, xup_k hk⟩) fun i => ?_) (hS.put e2 e3 (xAd_A h.1))
  unfold xVal
  rw [h.2.2.1]
  show Value.long _ = _
  by_cases e : i = j
  · rw [if_pos e, e, xup_s]
  · rw [if_neg e, xup_i e]; rfl
theorem V_bast {a N j : Nat} {i v : Int32} (d : decode Y.2.1 pc = .ok (.bastore, 1)) (h : xIs n K a 12 N) (hi : i = nI j) (hj : j < N) (hv : v = 0 ∨ v = 1) (kk : V E l Y Q (x, n, K, G, xup M a j v, L) cs (pc + 1) ls st) : V E l Y Q (x, n, K, G, M, L) cs pc ls (.int v :: .int i :: .ref a :: st) := by
  intro p e s m args below meth cc C H locs lc hl hR hS
  obtain ⟨g1, g2⟩ := xin hi hj h.2.2.2
  have hc := h.arr hR (by omega) (by omega)
  refine W.zast C.1 C.2.1 hc ((xTyl_of C.2.2.2.2.2.2.2.2.1).2.2.1.1 N _) (fun z => by cases z) (by rw [arrV_size]; exact g1) rfl rfl d fun H' e1 e2 e3 => ?_
  rw [g2] at e1 ⊢
  rw [show narrow .boolean (.int v) = Value.int v by rcases hv with rfl | rfl <;> rfl] at e1
  refine kk p e s m args below meth cc C H' _ lc hl (hR.arr h (by omega) e2 e3 e1 (fun k i hk => ⟨rfl, xup_k hk, rfl⟩) fun i => ?_) (hS.put e2 e3 (xAd_A h.1))
  unfold xVal
  rw [h.2.2.1]
  show Value.int _ = _
  by_cases e : i = j
  · rw [if_pos e, e, xup_s]
  · rw [if_neg e, xup_i e]; rfl
end VM
end
section
/-! ===== the V layer: contracts, calls, returns, throws ===== -/
abbrev xP : Type := Option Value → xS → Prop
abbrev xPX : Type := String → xS → Prop
def xF : xPX := fun _ _ => False
/-- the answer o, and the state q' -/
def xR (o : Option Value) (q' : xS) : xP := fun o2 q2 => o2 = o ∧ q2 = q'
def xQc (E : xEnv) (P : xP) : Array Value → State → Outcome → State → Prop := fun _ st oc t => (∃ (o : Option Value) (q : xS), oc = .returned (o.map (xv E)) ∧ P o q ∧ xRel E q t.heap) ∧ va_F (xA E) st t
def xXC (E : xEnv) (PX : xPX) : String → State → State → Prop := fun Ex st t => (∃ q, PX Ex q ∧ xRel E q t.heap) ∧ va_F (xA E) st t
def xhd (Y : xY) : Cond := if Y.2.2.2.2.2 = [] then Cond.code Y.1 Y.2.1 Y.2.2.1 Y.2.2.2.1 else Cond.codeWith Y.1 Y.2.1 Y.2.2.1 Y.2.2.2.1 Y.2.2.2.2.2
def xws (Y : xY) : List Cond := xhd Y :: xTT
def xPre (E : xEnv) (As : List Value) (q : xS) : Array Value → State → Prop := va_Pc (As.map (xv E)) (fun U => xKn E U ∧ xRel E q U.heap)
def Con (E : xEnv) (l : Launch) (Y : xY) (As : List Value) (q : xS) (P : xP) (PX : xPX) : Prop :=
  vx_Met l Y.1 (xws Y) Y.2.2.2.2.1 (xPre E As q) (xQc E P) (xXC E PX) Y.2.2.2.2.1.cells Y.2.2.2.2.1.slots (xA E)
def xQm (E : xEnv) (Y : xY) (P : xP) (PX : xPX) : xQ := fun s args below => vx_MQ below (xQc E P) (xXC E PX) args s Y.2.2.2.2.1.cells Y.2.2.2.2.1.slots (xA E)
theorem Con.met {E : xEnv} {l : Launch} {Y : xY} {As : List Value} {q : xS} {P : xP} (h : Con E l Y As q P xF) : Met l Y.1 (xws Y) Y.2.2.2.2.1 (xPre E As q) (xQc E P) Y.2.2.2.2.1.cells Y.2.2.2.2.1.slots (xA E) := by
  intro p e h1 h2 h3 s m args below h4 h5 h6 h7
  obtain ⟨n, o, g1, g2, g3, g4⟩ := h p e h1 h2 h3 s m args below h4 h5 h6 h7
  refine ⟨n, o, g1, g2, g3, ?_⟩
  rcases g4 with g | ⟨z, -, Ex, ce, Ls, ⟨⟨q', hF, -⟩, -⟩, -⟩
  · exact g
  · exact absurd hF id
theorem Con.weak {E : xEnv} {l : Launch} {Y : xY} {As : List Value} {q : xS} {P P' : xP} {PX PX' : xPX} (h : Con E l Y As q P PX) (hP : ∀ o q', P o q' → P' o q') (hX : ∀ Ex q', PX Ex q' → PX' Ex q') : Con E l Y As q P' PX' := by
  intro p e h1 h2 h3 s m args below h4 h5 h6 h7
  obtain ⟨n, o, g1, g2, g3, g4⟩ := h p e h1 h2 h3 s m args below h4 h5 h6 h7
  refine ⟨n, o, g1, g2, g3, ?_⟩
  rcases g4 with ⟨⟨⟨o2, q2, a1, a2, a3⟩, a4⟩, g⟩ | ⟨z, e1, Ex, ce, Ls, ⟨⟨q', b1, b2⟩, b3⟩, g⟩
  · exact Or.inl ⟨⟨⟨o2, q2, a1, hP _ _ a2, a3⟩, a4⟩, g⟩
  · exact Or.inr ⟨z, e1, Ex, ce, Ls, ⟨⟨q', hX _ _ b1, b2⟩, b3⟩, g⟩
theorem xPre.blind {E : xEnv} {As : List Value} {q : xS} : FrameBlind (xPre E As q) := fun a U g mk h => ⟨h.1, h.2.1.calling g mk a, h.2.2⟩
/-- the locals with which a method begins -/
def xEnt : List Value → List (Option Value)
  | [] => []
  | v :: vs => some v :: ((if v.category = 2 then [none] else []) ++ xEnt vs)
theorem xEnt_args {E : xEnv} : ∀ (vs : List Value) (i0 i : Nat) (v : Value), (xEnt vs)[i]? = some (some v) → (i0 + i, xv E v) ∈ lv_args i0 (vs.map (xv E))
  | [], _, i, v, h => by simp [xEnt] at h
  | w :: vs, i0, i, v, h => by
    show _ ∈ (i0, xv E w) :: lv_args (if (xv E w).category = 2 then i0 + 2 else i0 + 1) (vs.map (xv E))
    rw [xv_cat]
    cases i with
    | zero => simp [xEnt] at h; subst h; exact List.mem_cons_self
    | succ i =>
      refine List.mem_cons_of_mem _ ?_
      by_cases hc : w.category = 2
      · rw [if_pos hc]
        cases i with
        | zero => simp [xEnt, hc] at h
        | succ i =>
          have := xEnt_args (E := E) vs (i0 + 2) i v (by simpa [xEnt, hc] using h)
          rwa [show i0 + 2 + i = i0 + (i + 1 + 1) by omega] at this
      · rw [if_neg hc]
        have := xEnt_args (E := E) vs (i0 + 1) i v (by simpa [xEnt, hc] using h)
        rwa [show i0 + 1 + i = i0 + (i + 1) by omega] at this
theorem xEntry {E : xEnv} {vs : List Value} {n k : Nat} {ls : List (Option Value)} (hn : (lg_sl (vs.map (xv E))).length ≤ n) (hls : ls = xEnt vs ++ List.replicate k none) :
    xHas E ((lg_sl (vs.map (xv E)) ++ List.replicate (n - (lg_sl (vs.map (xv E))).length) Slot.unset).toArray) n ls := by
  have hl := lv_entry (vs.map (xv E)) hn
  refine ⟨hl.1, hl.2.1, fun i v hv => ?_⟩
  have h2 : (xEnt vs)[i]? = some (some v) := by
    rw [hls] at hv
    by_cases h : i < (xEnt vs).length
    · rwa [List.getElem?_append_left h] at hv
    · rw [List.getElem?_append_right (by omega)] at hv
      have := List.eq_of_mem_replicate (List.mem_of_getElem? hv)
      cases this
  have h3 := hl.2.2 _ (xEnt_args (E := E) vs 0 i v h2)
  simpa using h3
theorem Con.mk {E : xEnv} {l : Launch} {Y : xY} {As : List Value} {q : xS} {P : xP} {PX : xPX} {ls : List (Option Value)} (k : Nat) (hY : plainName Y.1.cls = true) (ht : Y.2.2.2.2.2 = []) (hls : ls = xEnt As ++ List.replicate k none) (hn : (lg_sl (As.map (xv E))).length ≤ Y.2.2.1)
    (body : V E l Y (xQm E Y P PX) q (0, 0) 0 ls []) : Con E l Y As q P PX := by
  have hw : xws Y = Cond.code Y.1 Y.2.1 Y.2.2.1 Y.2.2.2.1 :: xTT := by unfold xws xhd; rw [if_pos ht]
  refine vx_ofW hY hw ?_
  intro p e s m args below meth c s₁ B hml htab hP
  obtain ⟨rfl, hK, hR⟩ := hP
  have hts := atoms_spec (ws := xws Y) B.pre
  rw [lg_entry_eq]
  exact body p e s m _ below meth c ⟨B.exec, B.bytes, hml, B.returns, B.notSynchronized, (name_of_methodNamed B.named B.method).1, findClass_of_methodNamed B.named, fun w hw => hts w (List.mem_cons_of_mem _ hw), hK, by
      rw [ht]
      cases hc : c.exceptionTable.toList with
      | nil => rfl
      | cons a b => exact absurd (htab a (by rw [hc]; exact List.mem_cons_self)) id⟩ s.heap [] _ (xEntry hn hls) hR va_S.rf
theorem Con.mkH {E : xEnv} {l : Launch} {Y : xY} {As : List Value} {q : xS} {P : xP} {PX : xPX} {ls : List (Option Value)} (k : Nat) (hY : plainName Y.1.cls = true) (ht : Y.2.2.2.2.2 ≠ []) (hls : ls = xEnt As ++ List.replicate k none) (hn : (lg_sl (As.map (xv E))).length ≤ Y.2.2.1)
    (body : V E l Y (xQm E Y P PX) q (0, 0) 0 ls []) : Con E l Y As q P PX := by
  have hw : xws Y = Cond.codeWith Y.1 Y.2.1 Y.2.2.1 Y.2.2.2.1 Y.2.2.2.2.2 :: xTT := by unfold xws xhd; rw [if_neg ht]
  refine vx_ofWH hY hw ?_
  intro p e s m args below meth c s₁ B hml hP
  obtain ⟨rfl, hK, hR⟩ := hP
  have hts := atoms_spec (ws := xws Y) B.pre
  rw [lg_entry_eq]
  exact body p e s m _ below meth c ⟨B.exec, B.bytes, hml, B.returns, B.notSynchronized, (name_of_methodNamed B.named B.method).1, findClass_of_methodNamed B.named, fun w hw => hts w (List.mem_cons_of_mem _ hw), hK, vx_table (x := Y.1) B (hts _ (by rw [hw]; exact List.mem_cons_self))⟩ s.heap [] _ (xEntry hn hls) hR va_S.rf
section VC
variable {E : xEnv} {l : Launch} {Y : xY} {Q : xQ} {q : xS} {cs : Nat × Nat} {pc : Nat} {ls : List (Option Value)} {st : List Value} {P : xP} {PX : xPX}
/-! returns -/
theorem V_iret {r : Int32} (hr : Y.2.2.2.1 = some .int) (d : decode Y.2.1 pc = .ok (.ireturn, 1)) (h1 : cs.1 ≤ Y.2.2.2.2.1.cells) (h2 : cs.2 ≤ Y.2.2.2.2.1.slots) (hP : P (some (.int r)) q) : V E l Y (xQm E Y P PX) q cs pc ls [.int r] := by
  intro p e s m args below meth c C H locs lc hl hR hS
  refine vx_ret (W.widen h1 h2 (W.iret C.1 C.2.1 (C.2.2.2.1.trans hr) (fun t ht hW => ⟨⟨some (.int r), q, rfl, hP, by rw [ht]; exact hR⟩, hS.F ht⟩) hS.2.2 d C.2.2.2.2.1))
theorem V_zret {r : Int32} (hr : Y.2.2.2.1 = some .boolean) (d : decode Y.2.1 pc = .ok (.ireturn, 1)) (hv : r = 0 ∨ r = 1) (h1 : cs.1 ≤ Y.2.2.2.2.1.cells) (h2 : cs.2 ≤ Y.2.2.2.2.1.slots) (hP : P (some (.int r)) q) : V E l Y (xQm E Y P PX) q cs pc ls [.int r] := by
  intro p e s m args below meth c C H locs lc hl hR hS
  refine vx_ret (W.widen h1 h2 (W.zret (ty := .boolean) C.1 C.2.1 (C.2.2.2.1.trans hr) (by rcases hv with rfl | rfl <;> rfl) (fun t ht hW => ⟨⟨some (.int r), q, rfl, hP, by rw [ht]; exact hR⟩, hS.F ht⟩) hS.2.2 d C.2.2.2.2.1))
theorem V_lret {r : Int64} (hr : Y.2.2.2.1 = some .long) (d : decode Y.2.1 pc = .ok (.lreturn, 1)) (h1 : cs.1 ≤ Y.2.2.2.2.1.cells) (h2 : cs.2 ≤ Y.2.2.2.2.1.slots) (hP : P (some (.long r)) q) : V E l Y (xQm E Y P PX) q cs pc ls [.long r] := by
  intro p e s m args below meth c C H locs lc hl hR hS
  refine vx_ret (W.widen h1 h2 (W.lret C.1 C.2.1 (C.2.2.2.1.trans hr) (fun t ht hW => ⟨⟨some (.long r), q, rfl, hP, by rw [ht]; exact hR⟩, hS.F ht⟩) hS.2.2 d C.2.2.2.2.1))
theorem V_vret (hr : Y.2.2.2.1 = none) (d : decode Y.2.1 pc = .ok (.return_, 1)) (h1 : cs.1 ≤ Y.2.2.2.2.1.cells) (h2 : cs.2 ≤ Y.2.2.2.2.1.slots) (hP : P none q) : V E l Y (xQm E Y P PX) q cs pc ls [] := by
  intro p e s m args below meth c C H locs lc hl hR hS
  refine vx_ret (W.widen h1 h2 (W.vret C.1 C.2.1 (C.2.2.2.1.trans hr) (fun t ht hW => ⟨⟨none, q, rfl, hP, by rw [ht]; exact hR⟩, hS.F ht⟩) hS.2.2 d C.2.2.2.2.1))
/-! calls -/
theorem xcall {p : Program} {e : Env} {R : Room} {s : State} {m : MethodId} {args : Array Value} {below : List Frame} {meth : Method} {c : Code} {H : Heap} {locs : List Loc} {cells slots mc ms : Nat} {Q' : State → Prop} {lc : Array Slot} {st0 rest : List Value} {a : Array Value}
    (hr : va_Run p l e R s m args below meth c H locs cells slots mc ms (F0 m pc lc st0) rest (xQc E P a) (xA E)) (hS : va_S (xA E) s.heap H locs)
    (kk : ∀ (o : Option Value) (q' : xS) (H1 : Heap) (locs1 : List Loc), P o q' → xRel E q' H1 → va_S (xA E) s.heap H1 locs1 → W p l e R s m args below meth c H1 locs1 (cells + mc) (slots + ms) Q' (F0 m (pc + 3) lc ((o.map (xv E)).toList ++ rest))) : W p l e R s m args below meth c H locs cells slots Q' (F0 m pc lc st0) := by
  intro T hT X
  obtain ⟨v, st₀, t, T', L, h0, X', hL, e1, e2, ⟨⟨o, q', hv, hp, hq⟩, hz, hk⟩, sg⟩ := hr T hT X
  cases hv
  rw [h0] at hz hk
  obtain ⟨t2, a1, b1⟩ := kk o q' T'.heap (locs ++ L) hp (by rw [e1]; exact hq)
    ⟨Nat.le_trans hS.1 (by rw [e1]; exact hz), fun z h1 h2 => by rw [e1, hk z (Nat.lt_of_lt_of_le h1 hS.1) h2]; exact hS.2.1 z h1 h2, fun z hz => by
      rcases List.mem_append.mp hz with h | h
      · exact hS.2.2 z h
      · exact hL z h⟩ T' rfl X'
  exact ⟨t2, sg t2 a1, b1⟩
/-- a method without handlers that can be called -/
def xYok (Y' : xY) (n : Nat) : Prop := Y'.2.2.2.2.2 = [] ∧ Cond.code Y'.1 Y'.2.1 Y'.2.2.1 Y'.2.2.2.1 ∈ xTT ∧ Cond.initialized Y'.1.cls ∈ xTT ∧
  (Y'.1.cls ≠ "java/lang/invoke/MethodHandle" ∧ Y'.1.cls ≠ "java/lang/invoke/VarHandle" ∧ (parseMethodDescriptor Y'.1.desc).map (fun d => d.parameters.length) = some n)
def xLk (own : String) (idx : Nat) (Y' : xY) : Prop := Cond.methodLink own idx Y'.1 ∈ xTT ∨ ∃ host : String, Cond.methodLinkNest own idx Y'.1 host ∈ xTT
def xFit (Y Y' : xY) (cs : Nat × Nat) : Prop := Y'.2.2.2.2.1.frames + 1 ≤ Y.2.2.2.2.1.frames ∧ 8 + (Y'.2.2.1 + 11) + Y'.2.2.2.2.1.locals ≤ Y.2.2.2.2.1.locals ∧ cs.1 + Y'.2.2.2.2.1.cells ≤ Y.2.2.2.2.1.cells ∧ cs.2 + Y'.2.2.2.2.1.slots ≤ Y.2.2.2.2.1.slots
theorem xYok.ws {Y' : xY} {n : Nat} (h : xYok Y' n) {args : Array Value} {s : State} (hts : ∀ w ∈ xTT, w.before args s = true) : ∀ w ∈ xws Y', ∀ (a' : Array Value) (U : State), s.WarmedH U.vm → w.before a' U = true := by
  intro w hw a' U hW
  rcases List.mem_cons.mp hw with rfl | hw
  · unfold xhd; rw [if_pos h.1]; exact xTT_at hW hts _ h.2.1
  · exact xTT_at hW hts _ hw
theorem xYok.mem {Y' : xY} {n : Nat} (h : xYok Y' n) : Cond.code Y'.1 Y'.2.1 Y'.2.2.1 Y'.2.2.2.1 ∈ xws Y' := by unfold xws xhd; rw [if_pos h.1]; exact List.mem_cons_self
theorem xYok.len {Y' : xY} {n : Nat} (h : xYok Y' n) : ∀ sig, parseMethodDescriptor Y'.1.desc = some sig → n = sig.parameters.length := by
  intro sig hs
  have h2 := h.2.2.2.2.2
  rw [hs] at h2
  exact (Option.some.inj h2).symm
theorem xcat (E : xEnv) (rest : List Value) : ((rest.map (xv E)).map fun v => v.category).sum = (rest.map fun v => v.category).sum := by
  rw [List.map_map]
  exact congrArg List.sum (List.map_congr_left fun v _ => xv_cat E v)
theorem xRel.recv {H : Heap} {s : State} {a c N n : Nat} {x : Bool} {K : xKnd} {G : xRef} {M : xMem} {L : xLng} {r : vw_C} (hR : xRel E (x, n, K, G, M, L) H) (h : xIs n K a c N) (hK : xKn E s) (hc : vwCl[c]? = some r) : ∃ cell : Cell, H[xAd E a]? = some cell ∧ cell.vm.isStatics = false ∧ s.vm.findClass r.1 = some cell.cls := by
  obtain ⟨r2, g1, g2, cell, q1, q2, q3, q4⟩ := (hR.1 a h.1 h.2.1).1 (show (K a).1 < 10 by rw [h.2.2.1]; exact vwCl_lt hc)
  dsimp only at g1 g2 q2 q4
  rw [h.2.2.1] at g1 g2 q2 q4
  cases hc.symm.trans g1
  exact ⟨cell, q1, by rw [q3]; rfl, by rw [q2]; exact (hK.1.1 c r hc).2.1⟩
theorem V_cv {Y' : xY} {idx a c N n : Nat} {x : Bool} {K : xKnd} {G : xRef} {M : xMem} {L : xLng} {As rest : List Value} {r : vw_C} (hk : xLk Y.1.cls idx Y') (hy : xYok Y' As.length) (hi : Cond.instanceMethod Y'.1 ∈ xTT) (hs : Cond.selects Y'.1.cls Y'.1 Y'.1 ∈ xTT) (hc : vwCl[c]? = some r) (hrc : r.1 = Y'.1.cls)
    (d : decode Y.2.1 pc = .ok (.invokevirtual idx, 3)) (h : xIs n K a c N) (con : Con E l Y' (.ref a :: As) (x, n, K, G, M, L) P xF) (fit : xFit Y Y' cs) (hW : (rest.map fun v => v.category).sum ≤ 8)
    (kk : ∀ o q', P o q' → V E l Y Q q' (cs.1 + Y'.2.2.2.2.1.cells, cs.2 + Y'.2.2.2.2.1.slots) (pc + 3) ls (o.toList ++ rest)) : V E l Y Q (x, n, K, G, M, L) cs pc ls (As.reverse ++ .ref a :: rest) := by
  intro p e s m args below meth cc C H locs lc hl hR hS
  obtain ⟨hx, hb, hml, hr, hlk, hnm, hown, hts, hKn, htab⟩ := id C
  have S : CallFix p m cc Y.2.1 Y.2.2.1 s args xTT Y.1.cls := ⟨hx, hb, hml, hown, hts⟩
  have hws := hy.ws hts
  have recv := hR.recv h hKn hc
  rw [hrc] at recv
  have hp : PreV s H Y'.1.cls (xAd E a) (xPre E (.ref a :: As) (x, n, K, G, M, L)) (As.map (xv E)) := ⟨xPre.blind, recv, fun U hU hW => ⟨rfl, hKn.go hS hU hW, by rw [hU]; exact hR⟩⟩
  have hW' : 2 * (F0 m pc lc []).monitorRoom + ((rest.map (xv E)).map fun v => v.category).sum ≤ 8 := by rw [xcat]; show 2 * 0 + _ ≤ 8; omega
  have fin : ∀ (o : Option Value) (q' : xS) (H1 : Heap) (locs1 : List Loc), P o q' → xRel E q' H1 → va_S (xA E) s.heap H1 locs1 → W p l e Y.2.2.2.2.1 s m args below meth cc H1 locs1 (cs.1 + Y'.2.2.2.2.1.cells) (cs.2 + Y'.2.2.2.2.1.slots) (Q s args below) (F0 m (pc + 3) lc ((o.map (xv E)).toList ++ rest.map (xv E))) := by
    intro o q' H1 locs1 hP hR1 hS1
    have := kk o q' hP p e s m args below meth cc C H1 locs1 lc hl hR1 hS1
    rw [List.map_append] at this
    cases o <;> exact this
  have es : (As.reverse ++ Value.ref a :: rest).map (xv E) = (As.map (xv E)).reverse ++ .ref (xAd E a) :: rest.map (xv E) := by simp [xv]
  rw [es]
  rcases hk with hk | ⟨host, hk⟩
  · exact xcall (va_runV (C := Y'.1.cls) (n := As.length) S con.met ⟨⟨rfl, rfl, fit.1, fit.2.1, hws, hy.mem, hts _ hy.2.1, hts _ hy.2.2.1, ⟨hy.2.2.2.1, hy.2.2.2.2.1⟩, hy.len, hts _ hk⟩, hts _ hi, hts _ hs⟩ hp rfl (by simp) hl.1 rfl hW' d fit.2.2) hS fin
  · exact xcall (va_runVN (C := Y'.1.cls) (n := As.length) (host := host) S con.met ⟨⟨⟨rfl, rfl, fit.1, fit.2.1, hws, hy.mem⟩, hts _ hy.2.1, hts _ hy.2.2.1, ⟨hy.2.2.2.1, hy.2.2.2.2.1⟩, hy.len, hts _ hk⟩, hts _ hi, hts _ hs⟩ hp rfl (by simp) hl.1 rfl hW' d fit.2.2) hS fin
theorem V_cs {Y' : xY} {idx : Nat} {As rest : List Value} (hk : xLk Y.1.cls idx Y') (hy : xYok Y' As.length) (hst : Cond.static Y'.1 ∈ xTT)
    (d : decode Y.2.1 pc = .ok (.invokestatic idx, 3)) (con : Con E l Y' As q P xF) (fit : xFit Y Y' cs) (hW : (rest.map fun v => v.category).sum ≤ 8)
    (kk : ∀ o q', P o q' → V E l Y Q q' (cs.1 + Y'.2.2.2.2.1.cells, cs.2 + Y'.2.2.2.2.1.slots) (pc + 3) ls (o.toList ++ rest)) : V E l Y Q q cs pc ls (As.reverse ++ rest) := by
  intro p e s m args below meth cc C H locs lc hl hR hS
  obtain ⟨hx, hb, hml, hr, hlk, hnm, hown, hts, hKn, htab⟩ := id C
  have S : CallFix p m cc Y.2.1 Y.2.2.1 s args xTT Y.1.cls := ⟨hx, hb, hml, hown, hts⟩
  have hws := hy.ws hts
  have hp : PreS s H (xPre E As q) (As.map (xv E)) := ⟨xPre.blind, fun U hU hW => ⟨rfl, hKn.go hS hU hW, by rw [hU]; exact hR⟩⟩
  have hW' : 2 * (F0 m pc lc []).monitorRoom + ((rest.map (xv E)).map fun v => v.category).sum ≤ 8 := by rw [xcat]; show 2 * 0 + _ ≤ 8; omega
  have fin : ∀ (o : Option Value) (q' : xS) (H1 : Heap) (locs1 : List Loc), P o q' → xRel E q' H1 → va_S (xA E) s.heap H1 locs1 → W p l e Y.2.2.2.2.1 s m args below meth cc H1 locs1 (cs.1 + Y'.2.2.2.2.1.cells) (cs.2 + Y'.2.2.2.2.1.slots) (Q s args below) (F0 m (pc + 3) lc ((o.map (xv E)).toList ++ rest.map (xv E))) := by
    intro o q' H1 locs1 hP hR1 hS1
    have := kk o q' hP p e s m args below meth cc C H1 locs1 lc hl hR1 hS1
    rw [List.map_append] at this
    cases o <;> exact this
  have es : (As.reverse ++ rest).map (xv E) = (As.map (xv E)).reverse ++ rest.map (xv E) := by simp
  rw [es]
  rcases hk with hk | ⟨host, hk⟩
  · exact xcall (va_runS (n := As.length) S con.met ⟨⟨rfl, rfl, fit.1, fit.2.1, hws, hy.mem, hts _ hy.2.1, hts _ hy.2.2.1, ⟨hy.2.2.2.1, hy.2.2.2.2.1⟩, hy.len, hts _ hk⟩, hts _ hst⟩ hp rfl (by simp) hl.1 rfl hW' d fit.2.2) hS fin
  · exact xcall (va_runSN (n := As.length) (host := host) S con.met ⟨⟨⟨rfl, rfl, fit.1, fit.2.1, hws, hy.mem⟩, hts _ hy.2.1, hts _ hy.2.2.1, ⟨hy.2.2.2.1, hy.2.2.2.2.1⟩, hy.len, hts _ hk⟩, hts _ hst, trivial⟩ hp rfl (by simp) hl.1 rfl hW' d fit.2.2) hS fin
theorem V_ci {Y' : xY} {idx a : Nat} {As rest : List Value} (hk : xLk Y.1.cls idx Y') (hy : xYok Y' As.length) (hi : Cond.instanceMethod Y'.1 ∈ xTT) (hinit : Y'.1.name = "<init>") (hnone : Y'.2.2.2.1 = none)
    (d : decode Y.2.1 pc = .ok (.invokespecial idx, 3)) (con : Con E l Y' (.ref a :: As) q P xF) (fit : xFit Y Y' cs) (hW : (rest.map fun v => v.category).sum ≤ 8)
    (kk : ∀ o q', P o q' → V E l Y Q q' (cs.1 + Y'.2.2.2.2.1.cells, cs.2 + Y'.2.2.2.2.1.slots) (pc + 3) ls (o.toList ++ rest)) : V E l Y Q q cs pc ls (As.reverse ++ .ref a :: rest) := by
  intro p e s m args below meth cc C H locs lc hl hR hS
  obtain ⟨hx, hb, hml, hr, hlk, hnm, hown, hts, hKn, htab⟩ := id C
  have S : CallFix p m cc Y.2.1 Y.2.2.1 s args xTT Y.1.cls := ⟨hx, hb, hml, hown, hts⟩
  have hws := hy.ws hts
  have hp : PreS s H (xPre E (.ref a :: As) q) (.ref (xAd E a) :: As.map (xv E)) := ⟨xPre.blind, fun U hU hW => ⟨rfl, hKn.go hS hU hW, by rw [hU]; exact hR⟩⟩
  have hW' : 2 * (F0 m pc lc []).monitorRoom + ((rest.map (xv E)).map fun v => v.category).sum ≤ 8 := by rw [xcat]; show 2 * 0 + _ ≤ 8; omega
  have fin : ∀ (o : Option Value) (q' : xS) (H1 : Heap) (locs1 : List Loc), P o q' → xRel E q' H1 → va_S (xA E) s.heap H1 locs1 → W p l e Y.2.2.2.2.1 s m args below meth cc H1 locs1 (cs.1 + Y'.2.2.2.2.1.cells) (cs.2 + Y'.2.2.2.2.1.slots) (Q s args below) (F0 m (pc + 3) lc ((o.map (xv E)).toList ++ rest.map (xv E))) := by
    intro o q' H1 locs1 hP hR1 hS1
    have := kk o q' hP p e s m args below meth cc C H1 locs1 lc hl hR1 hS1
    rw [List.map_append] at this
    cases o <;> exact this
  have es : (As.reverse ++ Value.ref a :: rest).map (xv E) = (As.map (xv E)).reverse ++ .ref (xAd E a) :: rest.map (xv E) := by simp [xv]
  rw [es]
  have hmem := hy.mem
  have hc2 := hts _ hy.2.1
  rw [hnone] at hmem hc2
  rcases hk with hk | ⟨host, hk⟩
  · exact xcall (va_runI (n := As.length) S con.met ⟨⟨rfl, rfl, fit.1, fit.2.1, hws, hmem, hc2, hts _ hy.2.2.1, ⟨hy.2.2.2.1, hy.2.2.2.2.1⟩, hy.len, hts _ hk⟩, hinit, hts _ hi⟩ hp rfl (by simp) hl.1 rfl hW' d fit.2.2) hS fin
  · exact xcall (va_runIN (n := As.length) (host := host) S con.met ⟨⟨⟨rfl, rfl, fit.1, fit.2.1, hws, hmem⟩, hc2, hts _ hy.2.2.1, ⟨hy.2.2.2.1, hy.2.2.2.2.1⟩, hy.len, hts _ hk⟩, hinit, hts _ hi⟩ hp rfl (by simp) hl.1 rfl hW' d fit.2.2) hS fin
end VC
end
section
/-! ===== the V layer: what is made, the static tables, arrays of objects, Math, throws and handlers ===== -/
section VN
variable {E : xEnv} {l : Launch} {Y : xY} {Q : xQ} {cs : Nat × Nat} {pc : Nat} {ls : List (Option Value)} {st : List Value}
variable {x : Bool} {n : Nat} {K : xKnd} {G : xRef} {M : xMem} {L : xLng}
def xnw {α : Type} (f : Nat → α) (n : Nat) (v : α) : Nat → α := fun k => if k = n then v else f k
theorem xnw_s {α : Type} {f : Nat → α} {n : Nat} {v : α} : xnw f n v n = v := by simp [xnw]
theorem xnw_n {α : Type} {f : Nat → α} {n k : Nat} {v : α} (h : k ≠ n) : xnw f n v k = f k := by simp [xnw, h]
theorem xRel.new {H H1 : Heap} {c N : Nat} (h : xRel E (true, n, K, G, M, L) H) (hz : H1.size = H.size + 1) (hq : ∀ z : Nat, z < H.size → H1[z]? = H[z]?)
    (hc : xCell E (xnw K n (c, N)) (xnw G n fun _ => none) (xnw M n fun _ => 0) (xnw L n fun _ => 0) H1 n) : xRel E (true, n + 1, xnw K n (c, N), xnw G n fun _ => none, xnw M n fun _ => 0, xnw L n fun _ => 0) H1 := by
  obtain ⟨h1, h2, h3, h4⟩ := h
  have h4 := h4 rfl
  dsimp only at h1 h2 h3 h4
  refine ⟨fun k k1 k2 => ?_, by dsimp only; omega, by dsimp only; omega, fun _ => by dsimp only; omega⟩
  by_cases e : k = n
  · rw [e]; exact hc
  · have hk : xCell E K G M L H k := h1 k k1 (by dsimp only at k2; omega)
    have hlt : xAd E k < H.size := by unfold xAd; rw [if_pos k1]; dsimp only at k2; omega
    show xCell E (xnw K n (c, N)) (xnw G n fun _ => none) (xnw M n fun _ => 0) (xnw L n fun _ => 0) H1 k
    unfold xCell at hk ⊢
    rw [xnw_n e, hq _ hlt]
    have ev : xVal E (xnw K n (c, N)) (xnw G n fun _ => none) (xnw M n fun _ => 0) (xnw L n fun _ => 0) k = xVal E K G M L k := by
      funext i; unfold xVal; rw [xnw_n e, xnw_n e, xnw_n e, xnw_n e]
    rw [ev]
    refine ⟨fun z => ?_, hk.2⟩
    obtain ⟨r, a1, a2, a3⟩ := hk.1 z
    exact ⟨r, a1, a2, a3.kept (hq _ hlt)⟩
theorem xRel.top {H : Heap} (h : xRel E (true, n, K, G, M, L) H) : xAd E n = H.size := by
  obtain ⟨h1, h2, h3, h4⟩ := h
  have h4 := h4 rfl
  dsimp only at h2 h4
  unfold xAd; rw [if_pos h2]; omega
def xNew (own : String) (idx c N : Nat) : Prop := ∃ (r : vw_C) (ty0 : Nat → FieldType), vwCl[c]? = some r ∧ r.2.2 = N ∧ (∀ w ∈ u_ws r.1 r.2.1 r.2.2, w ∈ xTT) ∧ Cond.classLink own idx r.1 ∈ xTT ∧ Cond.instantiable r.1 r.2.2 ∈ xTT ∧ Cond.initialized r.1 ∈ xTT ∧
  (∀ k, k < r.2.2 → parseFieldDescriptor (r.2.1 k).2.2.1 = some (ty0 k)) ∧ ∀ k, k < r.2.2 → defaultValue (ty0 k) = (if xTy c k = 0 then .int 0 else if xTy c k = 1 then .long 0 else .null)
theorem V_new {c N idx : Nat} (f : xNew Y.1.cls idx c N) (d : decode Y.2.1 pc = .ok (.new idx, 3)) (h1 : cs.1 + 1 ≤ Y.2.2.2.2.1.cells) (h2 : cs.2 + N ≤ Y.2.2.2.2.1.slots)
    (kk : V E l Y Q (true, n + 1, xnw K n (c, N), xnw G n fun _ => none, xnw M n fun _ => 0, xnw L n fun _ => 0) (cs.1 + 1, cs.2 + N) (pc + 3) ls (.ref n :: st)) : V E l Y Q (true, n, K, G, M, L) cs pc ls st := by
  intro p e s m args below meth cc C H locs lc hl hR hS
  obtain ⟨r, ty0, f1, f2, f3, f4, f5, f6, f7, f8⟩ := f
  subst f2
  obtain ⟨hx, hb, hml, hr, hlk, hnm, hown, hts, hKn, htab⟩ := id C
  have hKc := hKn.1.1 c r f1
  refine W.newcK hx hb hown (hts _ f4) (hts _ f5) (hts _ f6) rfl d h1 h2 hKc.2.1 rfl fun H1 kC hkC e1 z1 o1 => ?_
  rw [← hR.top] at e1 ⊢
  refine kk p e s m args below meth cc C H1 locs lc hl (hR.new z1 o1 ⟨fun _ => ?_, fun z => ?_⟩) ⟨Nat.le_trans hS.1 (by omega), fun z g1 g2 => (o1 z (Nat.lt_of_lt_of_le g1 hS.1)).trans (hS.2.1 z g1 g2), hS.2.2⟩
  · rw [xnw_s]
    refine ⟨r, f1, rfl, (u_born ty0 hts f3 hKc hkC e1 f7).to fun j hj => ?_⟩
    rw [f8 j hj]
    unfold xVal
    rw [xnw_s, xnw_s, xnw_s, xnw_s]
    rfl
  · rw [xnw_s] at z
    have := vwCl_lt f1
    exact absurd z (by dsimp only; omega)
def xAt (t : Nat) (at9 : ArrayType) : Prop := (t = 10 ∧ at9 = .int) ∨ (t = 11 ∧ at9 = .long) ∨ (t = 12 ∧ at9 = .boolean)
theorem V_newarr {t N : Nat} {at9 : ArrayType} {i : Int32} (ht : xAt t at9) (hw : Cond.arrayClass (newarray.typeOf at9) ∈ xTT) (d : decode Y.2.1 pc = .ok (.newarray at9, 2)) (hi : i = nI N) (hN : N < 65536) (h1 : cs.1 + 1 ≤ Y.2.2.2.2.1.cells) (h2 : cs.2 + N ≤ Y.2.2.2.2.1.slots)
    (kk : V E l Y Q (true, n + 1, xnw K n (t, N), xnw G n fun _ => none, xnw M n fun _ => 0, xnw L n fun _ => 0) (cs.1 + 1, cs.2 + N) (pc + 2) ls (.ref n :: st)) : V E l Y Q (true, n, K, G, M, L) cs pc ls (.int i :: st) := by
  intro p e s m args below meth cc C H locs lc hl hR hS
  obtain ⟨hx, hb, hml, hr, hlk, hnm, hown, hts, hKn, htab⟩ := id C
  subst hi
  have hN2 : (nI N).toNatClampNeg = N := nI_clamp (by omega)
  have hb9 : N * componentBytes (newarray.typeOf at9) ≤ 536870912 := by
    have : componentBytes (newarray.typeOf at9) ≤ 8 := by rcases ht with ⟨-, rfl⟩ | ⟨-, rfl⟩ | ⟨-, rfl⟩ <;> decide
    calc N * componentBytes (newarray.typeOf at9) ≤ N * 8 := Nat.mul_le_mul_left _ this
      _ ≤ 536870912 := by omega
  refine va_newaK hx hb (hts _ hw) rfl d rfl (nI_pos (by omega)) hN2 hb9 h1 h2 rfl fun H1 cA e1 z1 o1 hAr hNm => ?_
  rw [← hR.top] at e1 ⊢
  obtain ⟨t1, t2, t3, t4⟩ := xTyl_of hKn
  refine kk p e s m args below meth cc C H1 locs lc hl (hR.new z1 o1 ⟨fun z => ?_, fun _ _ => ?_⟩) ⟨Nat.le_trans hS.1 (by omega), fun z g1 g2 => (o1 z (Nat.lt_of_lt_of_le g1 hS.1)).trans (hS.2.1 z g1 g2), hS.2.2⟩
  · rw [xnw_s] at z
    exact absurd z (by dsimp only; rcases ht with ⟨rfl, -⟩ | ⟨rfl, -⟩ | ⟨rfl, -⟩ <;> omega)
  · rw [e1, xnw_s]
    have hcA : cA = E.2.1 t := by
      rcases ht with ⟨rfl, rfl⟩ | ⟨rfl, rfl⟩ | ⟨rfl, rfl⟩
      · exact Option.some.inj (hNm.symm.trans t1.2)
      · exact Option.some.inj (hNm.symm.trans t2.2)
      · exact Option.some.inj (hNm.symm.trans t3.2)
    rw [hcA]
    refine congrArg (fun f => some (arrV (E.2.1 t) N f)) (funext fun j => ?_)
    unfold xVal
    rw [xnw_s, xnw_s, xnw_s, xnw_s]
    rcases ht with ⟨rfl, rfl⟩ | ⟨rfl, rfl⟩ | ⟨rfl, rfl⟩ <;> rfl
theorem V_anew {N idx : Nat} {i : Int32} (hw : Cond.classLink Y.1.cls idx RX3 ∈ xTT) (d : decode Y.2.1 pc = .ok (.anewarray idx, 3)) (hi : i = nI N) (hN : N < 65536) (h1 : cs.1 + 1 ≤ Y.2.2.2.2.1.cells) (h2 : cs.2 + N ≤ Y.2.2.2.2.1.slots)
    (kk : V E l Y Q (true, n + 1, xnw K n (13, N), xnw G n fun _ => none, xnw M n fun _ => 0, xnw L n fun _ => 0) (cs.1 + 1, cs.2 + N) (pc + 3) ls (.ref n :: st)) : V E l Y Q (true, n, K, G, M, L) cs pc ls (.int i :: st) := by
  intro p e s m args below meth cc C H locs lc hl hR hS
  obtain ⟨hx, hb, hml, hr, hlk, hnm, hown, hts, hKn, htab⟩ := id C
  subst hi
  have hN2 : (nI N).toNatClampNeg = N := nI_clamp (by omega)
  obtain ⟨t1, t2, t3, t4⟩ := xTyl_of hKn
  obtain ⟨-, -, -, -, -, -, -, -, -, -, hAO, -⟩ := hKn
  refine W.anew hx hb hown (hts _ hw) (va_AO.use hAO) rfl d rfl (nI_pos (by omega)) (by rw [hN2]; omega) h1 (by rw [hN2]; exact h2) fun cA kA comp f1 f2 f3 f4 => ?_
  rw [hN2]
  generalize hH1 : H.push ({ cls := cA, slots := Array.replicate N .null, vm := .none } : Cell) = H1
  have z1 : H1.size = H.size + 1 := by rw [← hH1, Array.size_push]
  have e1 : H1[H.size]? = some (arrV cA N (fun _ => .null)) := by rw [← hH1, Array.getElem?_push_size, ← arrV_new]
  have o1 : ∀ q : Nat, q < H.size → H1[q]? = H[q]? := fun q hq => by rw [← hH1, Array.getElem?_push, if_neg (Nat.ne_of_lt hq)]
  rw [← hR.top] at e1 ⊢
  refine kk p e s m args below meth cc C H1 locs lc hl (hR.new z1 o1 ⟨fun z => ?_, fun _ _ => ?_⟩) ⟨Nat.le_trans hS.1 (by omega), fun z g1 g2 => (o1 z (Nat.lt_of_lt_of_le g1 hS.1)).trans (hS.2.1 z g1 g2), hS.2.2⟩
  · rw [xnw_s] at z; exact absurd z (by dsimp only; omega)
  · rw [e1, xnw_s]
    obtain ⟨kA2, comp2, k1, k2, k3, k4⟩ := t4.2
    have hcA : cA = E.2.1 13 := Option.some.inj (f1.symm.trans k4)
    rw [hcA]
    refine congrArg (fun f => some (arrV (E.2.1 13) N f)) (funext fun j => ?_)
    unfold xVal
    rw [xnw_s, xnw_s, xnw_s, xnw_s]
    rfl
theorem V_aald {a b N j : Nat} {i : Int32} (d : decode Y.2.1 pc = .ok (.aaload, 1)) (h : xIs n K a 13 N) (hi : i = nI j) (hj : j < N) (hg : G a j = some b) (kk : V E l Y Q (x, n, K, G, M, L) cs (pc + 1) ls (.ref b :: st)) : V E l Y Q (x, n, K, G, M, L) cs pc ls (.int i :: .ref a :: st) := by
  intro p e s m args below meth cc C H locs lc hl hR hS
  obtain ⟨g1, g2⟩ := xin hi hj h.2.2.2
  have hc := h.arr hR (by omega) (by omega)
  exact W.aald (v := .ref (xAd E b)) (ty := .object RX3) C.1 C.2.1 hc ((xTyl_of C.2.2.2.2.2.2.2.2.1).2.2.2.1 N _) rfl (fun z => by cases z) (by rw [arrV_size]; exact g1) (by rw [g2, arrV_read _ _ hj]; unfold xVal; rw [h.2.2.1, hg]; rfl) rfl rfl d (kk p e s m args below meth cc C H locs lc hl hR hS)
theorem V_aast {a b N N2 j : Nat} {i : Int32} (d : decode Y.2.1 pc = .ok (.aastore, 1)) (h : xIs n K a 13 N) (hb2 : xIs n K b 3 N2) (hi : i = nI j) (hj : j < N) (kk : V E l Y Q (x, n, K, xup G a j (some b), M, L) cs (pc + 1) ls st) : V E l Y Q (x, n, K, G, M, L) cs pc ls (.ref b :: .int i :: .ref a :: st) := by
  intro p e s m args below meth cc C H locs lc hl hR hS
  obtain ⟨g1, g2⟩ := xin hi hj h.2.2.2
  have hc := h.arr hR (by omega) (by omega)
  obtain ⟨hx, hb, hml, hr, hlk, hnm, hown, hts, hKn, htab⟩ := id C
  obtain ⟨t1, t2, t3, t4⟩ := xTyl_of hKn
  obtain ⟨kA, comp, k1, k2, k3, -⟩ := t4.2
  obtain ⟨cellV, v1, v2, v3⟩ := hR.recv hb2 hKn (r := (RX3, TX3, 2)) rfl
  have hcls := (hKn.1.1 3 (RX3, TX3, 2) rfl).2
  obtain ⟨kC, hkC, -⟩ := hcls.2
  have e1 : cellV.cls = E.1.1 3 := Option.some.inj (v3.symm.trans hcls.1)
  have e2 : comp = E.1.1 3 := Option.some.inj (k3.symm.trans hcls.1)
  subst e2
  refine W.aast hx hb hc (fun z q => by cases q) (fun z => by cases z) k1 k2 rfl hkC ⟨fun z => g1 (Or.inl z), by rw [arrV_size, g2]; exact hj⟩ v1 (fun z q => by rw [q] at v2; cases v2) (by rw [e1]; exact hkC) (by rw [e1]; exact va_assign hcls) rfl rfl d fun H' e1 e2 e3 => ?_
  rw [g2] at e1 ⊢
  refine kk p e s m args below meth cc C H' _ lc hl (hR.arr h (by omega) e2 e3 e1 (fun k i hk => ⟨xup_k hk, rfl, rfl⟩) fun i => ?_) (hS.put e2 e3 (xAd_A h.1))
  unfold xVal
  rw [h.2.2.1]
  show va_rf _ = _
  by_cases e : i = j
  · rw [if_pos e, e, xup_s]; rfl
  · rw [if_neg e, xup_i e]; rfl
/-! the static tables, the script -/
theorem V_gets {k idx : Nat} {nm : String} (hk : (k = 0 ∧ nm = "LEAST_SETTING") ∨ (k = 1 ∧ nm = "GREATEST_SETTING")) (hw : Cond.fieldLink Y.1.cls idx RX5 nm "[I" ∈ xTT) (d : decode Y.2.1 pc = .ok (.getstatic idx, 3)) {q : xS}
    (kk : V E l Y Q q cs (pc + 3) ls (.ref k :: st)) : V E l Y Q q cs pc ls st := by
  intro p e s m args below meth cc C H locs lc hl hR hS
  obtain ⟨hx, hb, hml, hr, hlk, hnm, hown, hts, hKn, htab⟩ := id C
  obtain ⟨-, -, -, -, -, z0, z1, -⟩ := hKn
  rcases hk with ⟨rfl, rfl⟩ | ⟨rfl, rfl⟩
  · exact va_gets hx hb z0 hS hown (hts _ hw) (fun _ h => h) d (kk p e s m args below meth cc C H locs lc hl hR hS)
  · exact va_gets hx hb z1 hS hown (hts _ hw) (fun _ h => h) d (kk p e s m args below meth cc C H locs lc hl hR hS)
theorem V_getsN {k idx : Nat} {nm host : String} (hk : (k = 0 ∧ nm = "LEAST_SETTING") ∨ (k = 1 ∧ nm = "GREATEST_SETTING")) (hw : Cond.fieldLinkNest Y.1.cls idx RX5 nm "[I" host ∈ xTT) (d : decode Y.2.1 pc = .ok (.getstatic idx, 3)) {q : xS}
    (kk : V E l Y Q q cs (pc + 3) ls (.ref k :: st)) : V E l Y Q q cs pc ls st := by
  intro p e s m args below meth cc C H locs lc hl hR hS
  obtain ⟨hx, hb, hml, hr, hlk, hnm, hown, hts, hKn, htab⟩ := id C
  obtain ⟨-, -, -, -, -, z0, z1, -⟩ := hKn
  rcases hk with ⟨rfl, rfl⟩ | ⟨rfl, rfl⟩
  · exact va_getsN hx hb z0 hS hown (hts _ hw) (fun _ h => h) d (kk p e s m args below meth cc C H locs lc hl hR hS)
  · exact va_getsN hx hb z1 hS hown (hts _ hw) (fun _ h => h) d (kk p e s m args below meth cc C H locs lc hl hR hS)
theorem V_ro {q : xS} {k N j : Nat} {f : Nat → Int32} {i : Int32} (hk : ∀ s, xKn E s → va_X (xAd E k) N f s s.heap ∧ xAd E k < xB E) (hi : i = nI j) (hj : j < N) (hN : N < 2 ^ 31) (d : decode Y.2.1 pc = .ok (.iaload, 1))
    (kk : V E l Y Q q cs (pc + 1) ls (.int (f j) :: st)) : V E l Y Q q cs pc ls (.int i :: .ref k :: st) := by
  intro p e s m args below meth cc C H locs lc hl hR hS
  obtain ⟨g1, g2⟩ := xin hi hj hN
  obtain ⟨hx, hb, hml, hr, hlk, hnm, hown, hts, hKn, htab⟩ := id C
  obtain ⟨k1, k2⟩ := hk s hKn
  have h2 : xB E ≤ s.heap.size := hKn.2.1
  refine va_sld hx hb k1 (by omega) (by unfold xA; omega) hS g1 d ?_
  rw [g2]
  exact kk p e s m args below meth cc C H locs lc hl hR hS
theorem V_ro0 {q : xS} {j : Nat} {i : Int32} (hi : i = nI j) (hj : j < 5) (d : decode Y.2.1 pc = .ok (.iaload, 1)) (kk : V E l Y Q q cs (pc + 1) ls (.int (xLeast j) :: st)) : V E l Y Q q cs pc ls (.int i :: .ref 0 :: st) := V_ro (fun s h => h.2.2.1) hi hj (by decide) d kk
theorem V_ro1 {q : xS} {j : Nat} {i : Int32} (hi : i = nI j) (hj : j < 5) (d : decode Y.2.1 pc = .ok (.iaload, 1)) (kk : V E l Y Q q cs (pc + 1) ls (.int (xGreatest j) :: st)) : V E l Y Q q cs pc ls (.int i :: .ref 1 :: st) := V_ro (fun s h => h.2.2.2.1) hi hj (by decide) d kk
theorem V_ro2 {q : xS} {j : Nat} {i : Int32} (hi : i = nI j) (hj : j < E.2.2.2.1) (hN : E.2.2.2.1 < 2 ^ 31) (d : decode Y.2.1 pc = .ok (.iaload, 1)) (kk : V E l Y Q q cs (pc + 1) ls (.int (E.2.2.2.2 j) :: st)) : V E l Y Q q cs pc ls (.int i :: .ref 2 :: st) := V_ro (fun s h => h.2.2.2.2.1) hi hj hN d kk
theorem V_len2 {q : xS} (d : decode Y.2.1 pc = .ok (.arraylength, 1)) (kk : V E l Y Q q cs (pc + 1) ls (.int (nI E.2.2.2.1) :: st)) : V E l Y Q q cs pc ls (.ref 2 :: st) := by
  intro p e s m args below meth cc C H locs lc hl hR hS
  obtain ⟨hx, hb, hml, hr, hlk, hnm, hown, hts, hKn, htab⟩ := id C
  obtain ⟨k1, k2⟩ := hKn.2.2.2.2.1
  have h2 : xB E ≤ s.heap.size := hKn.2.1
  exact va_slen hx hb k1 (by omega) (by unfold xA; omega) hS d (kk p e s m args below meth cc C H locs lc hl hR hS)
/-! java.lang.Object's constructor; Math -/
theorem V_obj {q : xS} {idx a : Nat} (h1 : Cond.methodLink Y.1.cls idx Lib.objectInit ∈ xTT) (h2 : Cond.instanceMethod Lib.objectInit ∈ xTT) (h3 : Cond.code Lib.objectInit ⟨#[0xb1]⟩ 1 none ∈ xTT) (d : decode Y.2.1 pc = .ok (.invokespecial idx, 3)) (hf : 1 ≤ Y.2.2.2.2.1.frames) (hlo : 20 ≤ Y.2.2.2.2.1.locals) (hW : (st.map fun v => v.category).sum ≤ 8)
    (kk : V E l Y Q q cs (pc + 3) ls st) : V E l Y Q q cs pc ls (.ref a :: st) := by
  intro p e s m args below meth cc C H locs lc hl hR hS
  obtain ⟨hx, hb, hml, hr, hlk, hnm, hown, hts, hKn, htab⟩ := id C
  exact W.objInit hx hb hown (hts _ h1) (hts _ h2) (hts _ h3) rfl (hl.1.trans hml.symm) rfl d hf (by rw [xcat]; show 2 * 0 + _ + 12 ≤ _; omega) (kk p e s m args below meth cc C H locs lc hl hR hS)
theorem V_max {q : xS} {idx : Nat} {a b : Int32} (h1 : Cond.methodLink Y.1.cls idx Lib.Math.max.name ∈ xTT) (h2 : Cond.static Lib.Math.max.name ∈ xTT) (h3 : Cond.initialized "java/lang/Math" ∈ xTT) (h4 : Cond.code Lib.Math.max.name Lib.Math.max.code 2 (some .int) ∈ xTT) (d : decode Y.2.1 pc = .ok (.invokestatic idx, 3)) (hf : 1 ≤ Y.2.2.2.2.1.frames) (hlo : 21 ≤ Y.2.2.2.2.1.locals) (hc : cs.1 ≤ Y.2.2.2.2.1.cells) (hs : cs.2 ≤ Y.2.2.2.2.1.slots) (hW : (st.map fun v => v.category).sum ≤ 8)
    (kk : V E l Y Q q cs (pc + 3) ls (.int (if a < b then b else a) :: st)) : V E l Y Q q cs pc ls (.int b :: .int a :: st) := by
  intro p e s m args below meth cc C H locs lc hl hR hS
  obtain ⟨hx, hb, hml, hr, hlk, hnm, hown, hts, hKn, htab⟩ := id C
  exact va_mmax hx hb (hml.trans hl.1.symm) hown (hts _ h1) (hts _ h2) (hts _ h3) (hts _ h4) hf (by rw [xcat]; omega) hc hs d (kk p e s m args below meth cc C H locs lc hl hR hS)
theorem V_min {q : xS} {idx : Nat} {a b : Int32} (h1 : Cond.methodLink Y.1.cls idx Lib.Math.min.name ∈ xTT) (h2 : Cond.static Lib.Math.min.name ∈ xTT) (h3 : Cond.initialized "java/lang/Math" ∈ xTT) (h4 : Cond.code Lib.Math.min.name Lib.Math.min.code 2 (some .int) ∈ xTT) (d : decode Y.2.1 pc = .ok (.invokestatic idx, 3)) (hf : 1 ≤ Y.2.2.2.2.1.frames) (hlo : 21 ≤ Y.2.2.2.2.1.locals) (hc : cs.1 ≤ Y.2.2.2.2.1.cells) (hs : cs.2 ≤ Y.2.2.2.2.1.slots) (hW : (st.map fun v => v.category).sum ≤ 8)
    (kk : V E l Y Q q cs (pc + 3) ls (.int (if b < a then b else a) :: st)) : V E l Y Q q cs pc ls (.int b :: .int a :: st) := by
  intro p e s m args below meth cc C H locs lc hl hR hS
  obtain ⟨hx, hb, hml, hr, hlk, hnm, hown, hts, hKn, htab⟩ := id C
  exact va_mmin hx hb (hml.trans hl.1.symm) hown (hts _ h1) (hts _ h2) (hts _ h3) (hts _ h4) hf (by rw [xcat]; omega) hc hs d (kk p e s m args below meth cc C H locs lc hl hR hS)
theorem V_absL {q : xS} {idx : Nat} {a : Int64} (h1 : Cond.methodLink Y.1.cls idx Lib.MathLoose.abs_long.x ∈ xTT) (h2 : Cond.static Lib.MathLoose.abs_long.x ∈ xTT) (h3 : Cond.initialized "java/lang/Math" ∈ xTT) (h4 : Cond.code Lib.MathLoose.abs_long.x Lib.MathLoose.abs_long.code 2 (some .long) ∈ xTT) (d : decode Y.2.1 pc = .ok (.invokestatic idx, 3)) (hf : 1 ≤ Y.2.2.2.2.1.frames) (hlo : 21 ≤ Y.2.2.2.2.1.locals) (hc : cs.1 ≤ Y.2.2.2.2.1.cells) (hs : cs.2 ≤ Y.2.2.2.2.1.slots) (hW : (st.map fun v => v.category).sum ≤ 8)
    (kk : V E l Y Q q cs (pc + 3) ls (.long (if 0 < a then a else -a) :: st)) : V E l Y Q q cs pc ls (.long a :: st) := by
  intro p e s m args below meth cc C H locs lc hl hR hS
  obtain ⟨hx, hb, hml, hr, hlk, hnm, hown, hts, hKn, htab⟩ := id C
  exact va_mabs_long hx hb (hml.trans hl.1.symm) hown (hts _ h1) (hts _ h2) (hts _ h3) (hts _ h4) hf (by rw [xcat]; omega) hc hs d (kk p e s m args below meth cc C H locs lc hl hR hS)
/-! throws -/
theorem xRel.grow {H H1 : Heap} {q : xS} (h : xRel E q H) (h1 : H.size ≤ H1.size) (h2 : ∀ z : Nat, z < H.size → H1[z]? = H[z]?) : xRel E (false, q.2) H1 := by
  refine ⟨fun k k1 k2 => (h.1 k k1 k2).kept (h2 _ ?_) fun _ => rfl, h.2.1, Nat.le_trans h.2.2.1 (by omega), fun z => by cases z⟩
  have := h.2.2.1
  unfold xAd; rw [if_pos k1]
  have k3 : k < q.2.1 := k2
  omega
def xThr (own : String) (ik is ic : Nat) (cls text : String) (names : List String) : Prop :=
  Bundle.fit cls = true ∧ (∀ n ∈ names, Bundle.fit n = true) ∧ names.length ≤ 4 ∧ Cond.classLink own ik cls ∈ xTT ∧ Cond.initialized cls ∈ xTT ∧ (own, is, text) ∈ xStrs ∧ (∀ w ∈ vx_atS own ic cls names, w ∈ xTT) ∧ (∀ w ∈ Cond.classLink own ik cls :: Cond.initialized cls :: vx_atS own ic cls names, vx_ot w = true)
theorem V_throw {q : xS} {ik is ic : Nat} {cls text : String} {names : List String} {P : xP} {PX : xPX} (f : xThr Y.1.cls ik is ic cls text names) (hl9 : l.stackTraces = false) (ht : Y.2.2.2.2.2 = [])
    (d0 : decode Y.2.1 pc = .ok (.new ik, 3)) (d3 : decode Y.2.1 (pc + 3) = .ok (.dup, 1)) (d4 : decode Y.2.1 (pc + 4) = .ok (.ldc is, 2)) (d6 : decode Y.2.1 (pc + 6) = .ok (.invokespecial ic, 3)) (d9 : decode Y.2.1 (pc + 9) = .ok (.athrow, 1))
    (hf : 8 ≤ Y.2.2.2.2.1.frames) (hlo : 120 ≤ Y.2.2.2.2.1.locals) (hc : cs.1 + 1 ≤ Y.2.2.2.2.1.cells) (hs : cs.2 + 6 ≤ Y.2.2.2.2.1.slots) (hP : PX cls (false, q.2)) : V E l Y (xQm E Y P PX) q cs pc ls [] := by
  intro p e s m args below meth cc C H locs lc hl hR hS
  obtain ⟨hx, hb, hml, hr, hlk, hnm, hown, hts, hKn, htab⟩ := id C
  obtain ⟨f1, f2, f3, f4, f5, f6, f7, f8⟩ := f
  obtain ⟨-, -, -, -, -, -, -, hU, hN, hstr, -⟩ := hKn
  obtain ⟨sa, hsa⟩ := hstr _ f6
  exact vx_throwS hx hb hl9 hown f1 f2 (hts _ f4) (hts _ f5) hsa (fun w hw => hts _ (f7 w hw)) f8 hU hN hS (hl.1.trans hml.symm) d0 d3 d4 d6 d9 (fun z hz => by rw [htab, ht] at hz; cases hz) (by omega) (by show 0 + _ ≤ _; omega) hc hs hlk
    (fun t hA g1 g2 => ⟨⟨_, hP, hR.grow g1 g2⟩, ⟨Nat.le_trans hS.1 g1, fun z a1 a2 => (g2 z (Nat.lt_of_lt_of_le a1 hS.1)).trans (hS.2.1 z a1 a2)⟩⟩) hS.2.2 hc hs
theorem V_throwW {q : xS} {ik is ic : Nat} {cls text : String} {names : List String} {P : xP} {PX : xPX} (f : xThr Y.1.cls ik is ic cls text names) (hl9 : l.stackTraces = false) (ht : Y.2.2.2.2.2 = [])
    (d0 : decode Y.2.1 pc = .ok (.new ik, 3)) (d3 : decode Y.2.1 (pc + 3) = .ok (.dup, 1)) (d4 : decode Y.2.1 (pc + 4) = .ok (.ldc_w is, 3)) (d7 : decode Y.2.1 (pc + 7) = .ok (.invokespecial ic, 3)) (d10 : decode Y.2.1 (pc + 10) = .ok (.athrow, 1))
    (hf : 8 ≤ Y.2.2.2.2.1.frames) (hlo : 120 ≤ Y.2.2.2.2.1.locals) (hc : cs.1 + 1 ≤ Y.2.2.2.2.1.cells) (hs : cs.2 + 6 ≤ Y.2.2.2.2.1.slots) (hP : PX cls (false, q.2)) : V E l Y (xQm E Y P PX) q cs pc ls [] := by
  intro p e s m args below meth cc C H locs lc hl hR hS
  obtain ⟨hx, hb, hml, hr, hlk, hnm, hown, hts, hKn, htab⟩ := id C
  obtain ⟨f1, f2, f3, f4, f5, f6, f7, f8⟩ := f
  obtain ⟨-, -, -, -, -, -, -, hU, hN, hstr, -⟩ := hKn
  obtain ⟨sa, hsa⟩ := hstr _ f6
  exact vx_throwSW hx hb hl9 hown f1 f2 (hts _ f4) (hts _ f5) hsa (fun w hw => hts _ (f7 w hw)) f8 hU hN hS (hl.1.trans hml.symm) d0 d3 d4 d7 d10 (fun z hz => by rw [htab, ht] at hz; cases hz) (by omega) (by show 0 + _ ≤ _; omega) hc hs hlk
    (fun t hA g1 g2 => ⟨⟨_, hP, hR.grow g1 g2⟩, ⟨Nat.le_trans hS.1 g1, fun z a1 a2 => (g2 z (Nat.lt_of_lt_of_le a1 hS.1)).trans (hS.2.1 z a1 a2)⟩⟩) hS.2.2 hc hs
/-! handlers -/
def VX (E : xEnv) (l : Launch) (Y : xY) (Q : xQ) (Ex : String) (q : xS) (cs : Nat × Nat) (pc : Nat) : Prop :=
  ∀ (p : Program) (e : Env) (s : State) (m : MethodId) (args : Array Value) (below : List Frame) (meth : Method) (c : Code), xCtx E Y p s m args meth c →
  ∀ (H : Heap) (locs : List Loc) (lc : Array Slot) (st : List Value) (q9 : Addr) (ce : Cell), xHas E lc Y.2.2.1 [] → xRel E q H → va_S (xA E) s.heap H locs → H[q9]? = some ce → ce.vm = .none → s.vm.findClass Ex = some ce.cls →
  vx_W p l e Y.2.2.2.2.1 s m args below meth c H locs cs.1 cs.2 (Q s args below) (F0 m pc lc st) q9
theorem VX_catch {q : xS} {Ex name : String} {k : Fin 4} (pre : List ExceptionTableEntry) (x9 : ExceptionTableEntry) (suf : List ExceptionTableEntry) (ht : tableOf Y.2.2.2.2.2 = pre ++ x9 :: suf)
    (hpass : ∀ z ∈ pre, covers z pc = false ∨ (z.catchType ≠ 0 ∧ ∃ nm : String, Cond.classLink Y.1.cls z.catchType nm ∈ xTT ∧ ∀ s, xKn E s → va_Nc Ex nm s)) (hx9 : covers x9 pc = true) (h0 : x9.catchType ≠ 0) (hlink : Cond.classLink Y.1.cls x9.catchType name ∈ xTT) (hcast : Cond.castable Ex name ∈ xTT)
    (d : decode Y.2.1 x9.handlerPc = .ok (.astore_n k, 1)) (hn : (k : Nat) < Y.2.2.1) (kk : V E l Y Q q cs (x9.handlerPc + 1) [] []) : VX E l Y Q Ex q cs pc := by
  intro p e s m args below meth cc C H locs lc st q9 ce hl hR hS hce hcv hcl
  obtain ⟨hx, hb, hml, hr, hlk, hnm, hown, hts, hKn, htab⟩ := id C
  refine vx_catch hown pre x9 suf (htab.trans ht) (fun z hz => ?_) hx9 h0 (hts _ hlink) (hts _ hcast) hce hcv hcl ?_
  · rcases hpass z hz with h | ⟨z0, nm, w1, w2⟩
    · exact Or.inl h
    · exact Or.inr ⟨z0, nm, hts _ w1, w2 s hKn⟩
  · exact lv_astore_n hx hb d rfl (lv := []) ⟨hl.1, hl.2.1, fun _ h => by cases h⟩ hn rfl fun lc' h' => kk p e s m args below meth cc C H locs lc' ⟨h'.1, h'.2.1, fun i v h => by simp at h⟩ hR hS
theorem VX_catchW {q : xS} {Ex name : String} {k : Nat} (pre : List ExceptionTableEntry) (x9 : ExceptionTableEntry) (suf : List ExceptionTableEntry) (ht : tableOf Y.2.2.2.2.2 = pre ++ x9 :: suf)
    (hpass : ∀ z ∈ pre, covers z pc = false ∨ (z.catchType ≠ 0 ∧ ∃ nm : String, Cond.classLink Y.1.cls z.catchType nm ∈ xTT ∧ ∀ s, xKn E s → va_Nc Ex nm s)) (hx9 : covers x9 pc = true) (h0 : x9.catchType ≠ 0) (hlink : Cond.classLink Y.1.cls x9.catchType name ∈ xTT) (hcast : Cond.castable Ex name ∈ xTT)
    (d : decode Y.2.1 x9.handlerPc = .ok (.astore k, 2)) (hn : k < Y.2.2.1) (kk : V E l Y Q q cs (x9.handlerPc + 2) [] []) : VX E l Y Q Ex q cs pc := by
  intro p e s m args below meth cc C H locs lc st q9 ce hl hR hS hce hcv hcl
  obtain ⟨hx, hb, hml, hr, hlk, hnm, hown, hts, hKn, htab⟩ := id C
  refine vx_catch hown pre x9 suf (htab.trans ht) (fun z hz => ?_) hx9 h0 (hts _ hlink) (hts _ hcast) hce hcv hcl ?_
  · rcases hpass z hz with h | ⟨z0, nm, w1, w2⟩
    · exact Or.inl h
    · exact Or.inr ⟨z0, nm, hts _ w1, w2 s hKn⟩
  · exact lv_astore hx hb d (lv := []) ⟨hl.1, hl.2.1, fun _ h => by cases h⟩ hn rfl fun lc' h' => kk p e s m args below meth cc C H locs lc' ⟨h'.1, h'.2.1, fun i v h => by simp at h⟩ hR hS
theorem V_try {Y' : xY} {P : xP} {PX : xPX} {idx a c N : Nat} {As rest : List Value} {r : vw_C} (hk : Cond.methodLink Y.1.cls idx Y'.1 ∈ xTT) (hy : xYok Y' As.length) (hi : Cond.instanceMethod Y'.1 ∈ xTT) (hs : Cond.selects Y'.1.cls Y'.1 Y'.1 ∈ xTT) (hc : vwCl[c]? = some r) (hrc : r.1 = Y'.1.cls)
    (d : decode Y.2.1 pc = .ok (.invokevirtual idx, 3)) (h : xIs n K a c N) (con : Con E l Y' (.ref a :: As) (x, n, K, G, M, L) P PX) (fit : xFit Y Y' cs) (hW : (rest.map fun v => v.category).sum ≤ 8)
    (kx : ∀ Ex q', PX Ex q' → VX E l Y Q Ex q' (cs.1 + Y'.2.2.2.2.1.cells, cs.2 + Y'.2.2.2.2.1.slots) pc)
    (kk : ∀ o q', P o q' → V E l Y Q q' (cs.1 + Y'.2.2.2.2.1.cells, cs.2 + Y'.2.2.2.2.1.slots) (pc + 3) ls (o.toList ++ rest)) : V E l Y Q (x, n, K, G, M, L) cs pc ls (As.reverse ++ .ref a :: rest) := by
  intro p e s m args below meth cc C H locs lc hl hR hS
  obtain ⟨hx, hb, hml, hr, hlk, hnm, hown, hts, hKn, htab⟩ := id C
  have S : CallFix p m cc Y.2.1 Y.2.2.1 s args xTT Y.1.cls := ⟨hx, hb, hml, hown, hts⟩
  have hws := hy.ws hts
  have recv := hR.recv h hKn hc
  rw [hrc] at recv
  have hp : PreV s H Y'.1.cls (xAd E a) (xPre E (.ref a :: As) (x, n, K, G, M, L)) (As.map (xv E)) := ⟨xPre.blind, recv, fun U hU hW => ⟨rfl, hKn.go hS hU hW, by rw [hU]; exact hR⟩⟩
  have hW' : 2 * (F0 m pc lc []).monitorRoom + ((rest.map (xv E)).map fun v => v.category).sum ≤ 8 := by rw [xcat]; show 2 * 0 + _ ≤ 8; omega
  have es : (As.reverse ++ Value.ref a :: rest).map (xv E) = (As.map (xv E)).reverse ++ .ref (xAd E a) :: rest.map (xv E) := by simp [xv]
  rw [es]
  have hr := vx_runV (g := F0 m pc lc ((As.map (xv E)).reverse ++ .ref (xAd E a) :: rest.map (xv E))) (locs := locs) (cells := cs.1) (slots := cs.2) (p := p) (e := e) (below := below) (meth := meth) (C := Y'.1.cls) (n := As.length) S con ⟨⟨rfl, rfl, fit.1, fit.2.1, hws, hy.mem, hts _ hy.2.1, hts _ hy.2.2.1, ⟨hy.2.2.2.1, hy.2.2.2.2.1⟩, hy.len, hts _ hk⟩, hts _ hi, hts _ hs⟩ hp rfl (by simp) hl.1 rfl hW' d fit.2.2
  have keep : ∀ {st₀ t T' : State} {Lz : List Loc}, st₀.heap = H → T'.heap = t.heap → (∀ z ∈ Lz, xA E z.base) → va_F (xA E) st₀ t → va_S (xA E) s.heap T'.heap (locs ++ Lz) := by
    intro st₀ t T' Lz h0 e1 hL hF
    obtain ⟨hz, hk⟩ := hF
    rw [h0] at hz hk
    exact ⟨Nat.le_trans hS.1 (by rw [e1]; exact hz), fun z h1 h2 => by rw [e1, hk z (Nat.lt_of_lt_of_le h1 hS.1) h2]; exact hS.2.1 z h1 h2, fun z hz => by
      rcases List.mem_append.mp hz with h | h
      · exact hS.2.2 z h
      · exact hL z h⟩
  intro T hT X
  rcases hr T hT X with ⟨v, st₀, t, T', Lz, h0, X', hL, e1, e2, ⟨⟨o, q', hv, hP, hq⟩, hF⟩, sg⟩ | ⟨q9, st₀, t, T', Lz, Ex, ce, h0, X', hL, e1, e2, ⟨⟨q', hP, hq⟩, hF⟩, hce, hcv, hcl, sg⟩
  · cases hv
    have := kk o q' hP p e s m args below meth cc C T'.heap (locs ++ Lz) lc hl (by rw [e1]; exact hq) (keep h0 e1 hL hF) T' rfl (by exact X')
    rw [List.map_append] at this
    obtain ⟨t2, a1, b1⟩ := this
    refine ⟨t2, sg t2 ?_, b1⟩
    cases o <;> exact a1
  · obtain ⟨t2, a1, b1⟩ := kx Ex q' hP p e s m args below meth cc C T'.heap (locs ++ Lz) lc (rest.map (xv E)) q9 ce ⟨hl.1, hl.2.1, fun i v h => by simp at h⟩ (by rw [e1]; exact hq) (keep h0 e1 hL hF) (by rw [e1]; exact hce) hcv hcl T' rfl X'
    exact ⟨t2, sg.trans a1, b1⟩
end VN
end

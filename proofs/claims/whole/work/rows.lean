section
-- ===== PART A: goes FIRST, ahead of the names: the tables' words, and 'selects' of the private methods out of them =====
/-- a private method of a class that the tables say can be made, by its rows of tables_1 -/
def lw_okq (q : MethodName × Nat) : Prop := (q.1.cls ≠ "java/lang/invoke/MethodHandle" ∧ q.1.cls ≠ "java/lang/invoke/VarHandle") ∧ Cond.instantiable q.1.cls q.2 ∈ tables_1 ∧ Cond.privateMethod q.1 ∈ tables_1 ∧ Cond.instanceMethod q.1 ∈ tables_1
theorem lw_p0 : lw_okq (⟨"ImpactPlate$Text", "errorInPart", "(I)I"⟩, 2) := ⟨⟨by decide +kernel, by decide +kernel⟩, List.mem_of_getElem? (i := 24) (by decide +kernel), List.mem_of_getElem? (i := 214) (by decide +kernel), List.mem_of_getElem? (i := 215) (by decide +kernel)⟩
theorem lw_p1 : lw_okq (⟨"ImpactPlate$Text", "errorInDrop", "(I)I"⟩, 2) := ⟨⟨by decide +kernel, by decide +kernel⟩, List.mem_of_getElem? (i := 24) (by decide +kernel), List.mem_of_getElem? (i := 218) (by decide +kernel), List.mem_of_getElem? (i := 219) (by decide +kernel)⟩
theorem lw_p2 : lw_okq (⟨"ImpactPlate$Text", "errorInNumber", "(IIII)I"⟩, 2) := ⟨⟨by decide +kernel, by decide +kernel⟩, List.mem_of_getElem? (i := 24) (by decide +kernel), List.mem_of_getElem? (i := 222) (by decide +kernel), List.mem_of_getElem? (i := 223) (by decide +kernel)⟩
theorem lw_p3 : lw_okq (⟨"ImpactPlate$Text", "errorInSetting", "(III)I"⟩, 2) := ⟨⟨by decide +kernel, by decide +kernel⟩, List.mem_of_getElem? (i := 24) (by decide +kernel), List.mem_of_getElem? (i := 233) (by decide +kernel), List.mem_of_getElem? (i := 234) (by decide +kernel)⟩
theorem lw_p4 : lw_okq (⟨"ImpactPlate", "remember", "()V"⟩, 11) := ⟨⟨by decide +kernel, by decide +kernel⟩, List.mem_of_getElem? (i := 16) (by decide +kernel), List.mem_of_getElem? (i := 253) (by decide +kernel), List.mem_of_getElem? (i := 254) (by decide +kernel)⟩
theorem lw_p5 : lw_okq (⟨"java/lang/Throwable", "fillInStackTrace", "(I)Ljava/lang/Throwable;"⟩, 6) := ⟨⟨by decide +kernel, by decide +kernel⟩, List.mem_of_getElem? (i := 343) (by decide +kernel), List.mem_of_getElem? (i := 341) (by decide +kernel), List.mem_of_getElem? (i := 342) (by decide +kernel)⟩
theorem lw_p6 : lw_okq (⟨"ImpactPlate", "runPart", "(I)V"⟩, 11) := ⟨⟨by decide +kernel, by decide +kernel⟩, List.mem_of_getElem? (i := 16) (by decide +kernel), List.mem_of_getElem? (i := 406) (by decide +kernel), List.mem_of_getElem? (i := 407) (by decide +kernel)⟩
theorem lw_p7 : lw_okq (⟨"ImpactPlate$Plate", "strike", "(I)V"⟩, 12) := ⟨⟨by decide +kernel, by decide +kernel⟩, List.mem_of_getElem? (i := 45) (by decide +kernel), List.mem_of_getElem? (i := 436) (by decide +kernel), List.mem_of_getElem? (i := 437) (by decide +kernel)⟩
theorem lw_p8 : lw_okq (⟨"ImpactPlate$Plate", "binOf", "(I)I"⟩, 12) := ⟨⟨by decide +kernel, by decide +kernel⟩, List.mem_of_getElem? (i := 45) (by decide +kernel), List.mem_of_getElem? (i := 445) (by decide +kernel), List.mem_of_getElem? (i := 446) (by decide +kernel)⟩
theorem lw_p9 : lw_okq (⟨"ImpactPlate$Plate", "openPulse", "(I)V"⟩, 12) := ⟨⟨by decide +kernel, by decide +kernel⟩, List.mem_of_getElem? (i := 45) (by decide +kernel), List.mem_of_getElem? (i := 449) (by decide +kernel), List.mem_of_getElem? (i := 450) (by decide +kernel)⟩
theorem lw_p10 : lw_okq (⟨"ImpactPlate$LastNumbers", "standsAt", "(III)Z"⟩, 3) := ⟨⟨by decide +kernel, by decide +kernel⟩, List.mem_of_getElem? (i := 106) (by decide +kernel), List.mem_of_getElem? (i := 579) (by decide +kernel), List.mem_of_getElem? (i := 580) (by decide +kernel)⟩
theorem lw_p11 : lw_okq (⟨"ImpactPlate$Plate", "endByLaw", "(II)I"⟩, 12) := ⟨⟨by decide +kernel, by decide +kernel⟩, List.mem_of_getElem? (i := 45) (by decide +kernel), List.mem_of_getElem? (i := 595) (by decide +kernel), List.mem_of_getElem? (i := 596) (by decide +kernel)⟩
theorem lw_p12 : lw_okq (⟨"ImpactPlate", "replayRecord", "(III)I"⟩, 11) := ⟨⟨by decide +kernel, by decide +kernel⟩, List.mem_of_getElem? (i := 16) (by decide +kernel), List.mem_of_getElem? (i := 692) (by decide +kernel), List.mem_of_getElem? (i := 693) (by decide +kernel)⟩
theorem lw_p13 : lw_okq (⟨"ImpactPlate", "runCommand", "(I)Z"⟩, 11) := ⟨⟨by decide +kernel, by decide +kernel⟩, List.mem_of_getElem? (i := 16) (by decide +kernel), List.mem_of_getElem? (i := 728) (by decide +kernel), List.mem_of_getElem? (i := 729) (by decide +kernel)⟩
theorem lw_p14 : lw_okq (⟨"ImpactPlate", "scriptedFall", "(II)Z"⟩, 11) := ⟨⟨by decide +kernel, by decide +kernel⟩, List.mem_of_getElem? (i := 16) (by decide +kernel), List.mem_of_getElem? (i := 732) (by decide +kernel), List.mem_of_getElem? (i := 733) (by decide +kernel)⟩
theorem lw_p15 : lw_okq (⟨"ImpactPlate", "scriptedPass", "(I)Z"⟩, 11) := ⟨⟨by decide +kernel, by decide +kernel⟩, List.mem_of_getElem? (i := 16) (by decide +kernel), List.mem_of_getElem? (i := 736) (by decide +kernel), List.mem_of_getElem? (i := 737) (by decide +kernel)⟩
def lw_privs_1 : List (MethodName × Nat) := [(⟨"ImpactPlate$Text", "errorInPart", "(I)I"⟩, 2), (⟨"ImpactPlate$Text", "errorInDrop", "(I)I"⟩, 2), (⟨"ImpactPlate$Text", "errorInNumber", "(IIII)I"⟩, 2), (⟨"ImpactPlate$Text", "errorInSetting", "(III)I"⟩, 2), (⟨"ImpactPlate", "remember", "()V"⟩, 11), (⟨"java/lang/Throwable", "fillInStackTrace", "(I)Ljava/lang/Throwable;"⟩, 6), (⟨"ImpactPlate", "runPart", "(I)V"⟩, 11), (⟨"ImpactPlate$Plate", "strike", "(I)V"⟩, 12), (⟨"ImpactPlate$Plate", "binOf", "(I)I"⟩, 12), (⟨"ImpactPlate$Plate", "openPulse", "(I)V"⟩, 12), (⟨"ImpactPlate$LastNumbers", "standsAt", "(III)Z"⟩, 3), (⟨"ImpactPlate$Plate", "endByLaw", "(II)I"⟩, 12), (⟨"ImpactPlate", "replayRecord", "(III)I"⟩, 11), (⟨"ImpactPlate", "runCommand", "(I)Z"⟩, 11), (⟨"ImpactPlate", "scriptedFall", "(II)Z"⟩, 11), (⟨"ImpactPlate", "scriptedPass", "(I)Z"⟩, 11)]
theorem lw_r1 : ∀ q ∈ lw_privs_1, lw_okq q := List.forall_mem_cons.mpr ⟨lw_p0, List.forall_mem_cons.mpr ⟨lw_p1, List.forall_mem_cons.mpr ⟨lw_p2, List.forall_mem_cons.mpr ⟨lw_p3, List.forall_mem_cons.mpr ⟨lw_p4, List.forall_mem_cons.mpr ⟨lw_p5, List.forall_mem_cons.mpr ⟨lw_p6, List.forall_mem_cons.mpr ⟨lw_p7, List.forall_mem_cons.mpr ⟨lw_p8, List.forall_mem_cons.mpr ⟨lw_p9, List.forall_mem_cons.mpr ⟨lw_p10, List.forall_mem_cons.mpr ⟨lw_p11, List.forall_mem_cons.mpr ⟨lw_p12, List.forall_mem_cons.mpr ⟨lw_p13, List.forall_mem_cons.mpr ⟨lw_p14, List.forall_mem_cons.mpr ⟨lw_p15, fun _ h => absurd h List.not_mem_nil⟩⟩⟩⟩⟩⟩⟩⟩⟩⟩⟩⟩⟩⟩⟩⟩
theorem lw_p16 : lw_okq (⟨"ImpactPlate", "scriptedSetting", "(II)Z"⟩, 11) := ⟨⟨by decide +kernel, by decide +kernel⟩, List.mem_of_getElem? (i := 16) (by decide +kernel), List.mem_of_getElem? (i := 740) (by decide +kernel), List.mem_of_getElem? (i := 741) (by decide +kernel)⟩
theorem lw_p17 : lw_okq (⟨"ImpactPlateModel", "refused", "(I)Z"⟩, 12) := ⟨⟨by decide +kernel, by decide +kernel⟩, List.mem_of_getElem? (i := 774) (by decide +kernel), List.mem_of_getElem? (i := 836) (by decide +kernel), List.mem_of_getElem? (i := 837) (by decide +kernel)⟩
theorem lw_p18 : lw_okq (⟨"ImpactPlateModel", "readText", "()I"⟩, 12) := ⟨⟨by decide +kernel, by decide +kernel⟩, List.mem_of_getElem? (i := 774) (by decide +kernel), List.mem_of_getElem? (i := 848) (by decide +kernel), List.mem_of_getElem? (i := 849) (by decide +kernel)⟩
theorem lw_p19 : lw_okq (⟨"ImpactPlateModel", "isNext", "(I)Z"⟩, 12) := ⟨⟨by decide +kernel, by decide +kernel⟩, List.mem_of_getElem? (i := 774) (by decide +kernel), List.mem_of_getElem? (i := 852) (by decide +kernel), List.mem_of_getElem? (i := 853) (by decide +kernel)⟩
theorem lw_p20 : lw_okq (⟨"ImpactPlateModel", "accept", "(Z)V"⟩, 12) := ⟨⟨by decide +kernel, by decide +kernel⟩, List.mem_of_getElem? (i := 774) (by decide +kernel), List.mem_of_getElem? (i := 856) (by decide +kernel), List.mem_of_getElem? (i := 857) (by decide +kernel)⟩
theorem lw_p21 : lw_okq (⟨"ImpactPlateModel", "readPart", "()V"⟩, 12) := ⟨⟨by decide +kernel, by decide +kernel⟩, List.mem_of_getElem? (i := 774) (by decide +kernel), List.mem_of_getElem? (i := 860) (by decide +kernel), List.mem_of_getElem? (i := 861) (by decide +kernel)⟩
theorem lw_p22 : lw_okq (⟨"ImpactPlateModel", "digit", "(II)I"⟩, 12) := ⟨⟨by decide +kernel, by decide +kernel⟩, List.mem_of_getElem? (i := 774) (by decide +kernel), List.mem_of_getElem? (i := 864) (by decide +kernel), List.mem_of_getElem? (i := 865) (by decide +kernel)⟩
theorem lw_p23 : lw_okq (⟨"ImpactPlateModel", "two", "(II)I"⟩, 12) := ⟨⟨by decide +kernel, by decide +kernel⟩, List.mem_of_getElem? (i := 774) (by decide +kernel), List.mem_of_getElem? (i := 869) (by decide +kernel), List.mem_of_getElem? (i := 870) (by decide +kernel)⟩
theorem lw_p24 : lw_okq (⟨"ImpactPlateModel", "note", "()V"⟩, 12) := ⟨⟨by decide +kernel, by decide +kernel⟩, List.mem_of_getElem? (i := 774) (by decide +kernel), List.mem_of_getElem? (i := 989) (by decide +kernel), List.mem_of_getElem? (i := 990) (by decide +kernel)⟩
theorem lw_p25 : lw_okq (⟨"ImpactPlateModel", "fateOf", "(II)I"⟩, 12) := ⟨⟨by decide +kernel, by decide +kernel⟩, List.mem_of_getElem? (i := 774) (by decide +kernel), List.mem_of_getElem? (i := 1027) (by decide +kernel), List.mem_of_getElem? (i := 1028) (by decide +kernel)⟩
theorem lw_p26 : lw_okq (⟨"ImpactPlateModel", "begin", "()V"⟩, 12) := ⟨⟨by decide +kernel, by decide +kernel⟩, List.mem_of_getElem? (i := 774) (by decide +kernel), List.mem_of_getElem? (i := 1031) (by decide +kernel), List.mem_of_getElem? (i := 1032) (by decide +kernel)⟩
theorem lw_p27 : lw_okq (⟨"ImpactPlateModel", "play", "(II)V"⟩, 12) := ⟨⟨by decide +kernel, by decide +kernel⟩, List.mem_of_getElem? (i := 774) (by decide +kernel), List.mem_of_getElem? (i := 1047) (by decide +kernel), List.mem_of_getElem? (i := 1048) (by decide +kernel)⟩
theorem lw_p28 : lw_okq (⟨"ImpactPlateModel", "does", "(I)Z"⟩, 12) := ⟨⟨by decide +kernel, by decide +kernel⟩, List.mem_of_getElem? (i := 774) (by decide +kernel), List.mem_of_getElem? (i := 1060) (by decide +kernel), List.mem_of_getElem? (i := 1061) (by decide +kernel)⟩
def lw_privs_2 : List (MethodName × Nat) := [(⟨"ImpactPlate", "scriptedSetting", "(II)Z"⟩, 11), (⟨"ImpactPlateModel", "refused", "(I)Z"⟩, 12), (⟨"ImpactPlateModel", "readText", "()I"⟩, 12), (⟨"ImpactPlateModel", "isNext", "(I)Z"⟩, 12), (⟨"ImpactPlateModel", "accept", "(Z)V"⟩, 12), (⟨"ImpactPlateModel", "readPart", "()V"⟩, 12), (⟨"ImpactPlateModel", "digit", "(II)I"⟩, 12), (⟨"ImpactPlateModel", "two", "(II)I"⟩, 12), (⟨"ImpactPlateModel", "note", "()V"⟩, 12), (⟨"ImpactPlateModel", "fateOf", "(II)I"⟩, 12), (⟨"ImpactPlateModel", "begin", "()V"⟩, 12), (⟨"ImpactPlateModel", "play", "(II)V"⟩, 12), (⟨"ImpactPlateModel", "does", "(I)Z"⟩, 12)]
theorem lw_r2 : ∀ q ∈ lw_privs_2, lw_okq q := List.forall_mem_cons.mpr ⟨lw_p16, List.forall_mem_cons.mpr ⟨lw_p17, List.forall_mem_cons.mpr ⟨lw_p18, List.forall_mem_cons.mpr ⟨lw_p19, List.forall_mem_cons.mpr ⟨lw_p20, List.forall_mem_cons.mpr ⟨lw_p21, List.forall_mem_cons.mpr ⟨lw_p22, List.forall_mem_cons.mpr ⟨lw_p23, List.forall_mem_cons.mpr ⟨lw_p24, List.forall_mem_cons.mpr ⟨lw_p25, List.forall_mem_cons.mpr ⟨lw_p26, List.forall_mem_cons.mpr ⟨lw_p27, List.forall_mem_cons.mpr ⟨lw_p28, fun _ h => absurd h List.not_mem_nil⟩⟩⟩⟩⟩⟩⟩⟩⟩⟩⟩⟩⟩
def lw_privs : List (MethodName × Nat) := lw_privs_1 ++ (lw_privs_2)
def lw_tbl : List Cond := k2_sels lw_privs ++ tables_1
theorem lw_privs_ok : ∀ q ∈ lw_privs, lw_okq q := by
  show ∀ q ∈ lw_privs_1 ++ (lw_privs_2), lw_okq q
  exact List.forall_mem_append.mpr ⟨lw_r1, lw_r2⟩
-- ===== end of PART A; then your names; then what follows =====
/-! ===== BEGIN words of one list among another's, by their places ===== -/
theorem goodIn_r {big : List Cond} (ws : List Cond) (ps : List Nat) (hp : ws = ps.filterMap (fun i => big[i]?)) (h : ws.all goodWord = true) : GoodIn big ws := by
  intro w hw
  have h1 := List.all_eq_true.mp h w hw
  rw [hp] at hw
  obtain ⟨i, -, hi⟩ := List.mem_filterMap.mp hw
  have hm : w ∈ big := by first | exact List.mem_of_getElem? hi | exact List.getElem?_mem hi
  exact ⟨hm, good_of_word h1⟩
theorem goodIn_app {big a b : List Cond} (ha : GoodIn big a) (hb : GoodIn big b) : GoodIn big (a ++ b) := fun w h => (List.mem_append.mp h).elim (ha w) (hb w)
theorem goodIn_ca {big a b : List Cond} {c : Cond} (ha : GoodIn big (c :: a)) (hb : GoodIn big b) : GoodIn big (c :: (a ++ b)) := fun w h => (List.mem_cons.mp h).elim (fun e => ha w (List.mem_cons.mpr (Or.inl e))) (fun h => (List.mem_append.mp h).elim (fun h => ha w (List.mem_cons.mpr (Or.inr h))) (hb w))
theorem goodIn_sub {big ws : List Cond} (hm : ∀ w ∈ ws, w ∈ big) (h : ws.all goodWord = true) : GoodIn big ws := fun w hw => ⟨hm w hw, good_of_word (List.all_eq_true.mp h w hw)⟩
/-! ===== END ===== -/

/-! ===== BEGIN exceptions that leave a method, and their catching by the caller (launches without stack traces) ===== -/
section VXA
/-! The laws vx_back, vx_callV, vx_callS, vx_callSW, vx_throw0, vx_throwS follow proofs of the library, with one case more: JvmDerived/Free/Laws.lean (Back.of_free), Shelf42/LK1.lean (callV, callS), Shelf/KitTraced.lean (throwNew0V, throwNewS). -/
/-- where a method has thrown q: the class by its name, the cell, what was written, the world -/
def vx_T (XC : String → State → State → Prop) (st : State) (q : Addr) (t : State) (mc ms : Nat) (free : Addr → Prop) : Prop :=
  ∃ (E : String) (ce : Cell) (L : List Loc), XC E st t ∧ t.heap[q]? = some ce ∧ ce.vm = .none ∧ st.vm.findClass E = some ce.cls ∧ st.WarmedH t.vm ∧ st.sameButNew ({ t with vm := st.vm } : State) L mc ms ∧ ∀ z ∈ L, free z.base
def vx_Q (Qc : Array Value → State → Outcome → State → Prop) (XC : String → State → State → Prop) (mc ms : Nat) (free : Addr → Prop) : Array Value → State → Outcome → State → Prop := fun a st o t =>
  (Qc a st o t ∧ ∃ L, FrameEnd st o t L mc ms ∧ ∀ q ∈ L, free q.base) ∨ ∃ q, o = .threw q ∧ vx_T XC st q t mc ms free
/-- a callee that returns or throws -/
def vx_Met (l : Launch) (y : MethodName) (ws : List Cond) (rm : Room) (Pc : Array Value → State → Prop) (Qc : Array Value → State → Outcome → State → Prop) (XC : String → State → State → Prop) (mc ms : Nat) (free : Addr → Prop) : Prop :=
  MetFree l y (headSpec ws rm) Pc (fun _ _ _ _ _ => True) (vx_Q Qc XC mc ms free)
def vx_Post (XC : String → State → State → Prop) (mc ms : Nat) (free : Addr → Prop) : Pt → Array Value → Addr → Pt → Prop := fun A a q B =>
  ∃ (g : JFrame) (mk : MethodId) (t : State) (L : List Loc) (E : String) (ce : Cell), B.U.heap = t.heap ∧ B.U.vm = t.vm ∧ XC E (A.U.calling g mk a) t ∧ t.heap[q]? = some ce ∧ ce.vm = .none ∧ A.U.vm.findClass E = some ce.cls ∧ B.locs = A.locs ++ L ∧ (∀ z ∈ L, free z.base) ∧ B.cells = A.cells + mc ∧ B.slots = A.slots + ms
def vx_Back (l : Launch) (R : Room) (p : Program) (e : Env) (below : List Frame) (s : State) (sargs : Array Value) (y : MethodName) (len W9 : Nat)
    (Pre : Pt → Array Value → Prop) (Post : Pt → Array Value → Option Value → Pt → Prop) (PostX : Pt → Array Value → Addr → Pt → Prop) : Prop :=
  ∀ (m : MethodId) (meth : Method) (c : Code) (A : Pt) (g : JFrame) (ig : Instr) (mk : MethodId) (a : Array Value),
    Stand p l e R s m sargs below meth c A.U A.locs A.cells A.slots → g.method = m → g.locals.size = c.maxLocals → decode c.code g.pc = .ok (ig, len) →
    2 * g.monitorRoom + (g.stack.map fun v => v.category).sum ≤ W9 → A.U.methodNamed? y = some mk → Pre A a →
    (∃ (v : Option Value) (B : Pt), Stand p l e R s m sargs below meth c B.U B.locs B.cells B.slots ∧ Post A a v B ∧
      Steps p.tables e below (doInvoke e (A.U.setTop g) [] mk a).1 (B.U.setTop { g with pc := g.pc + len, stack := v.toList ++ g.stack })) ∨
    (∃ (q : Addr) (B : Pt), Stand p l e R s m sargs below meth c B.U B.locs B.cells B.slots ∧ PostX A a q B ∧
      Steps p.tables e below (doInvoke e (A.U.setTop g) [] mk a).1 ((B.U.setTop g).pushFrame (.throwing q)))
section Payer
variable {l : Launch} {R : Room} {p : Program} {e : Env} {below : List Frame} {s : State} {sargs : Array Value} {y : MethodName} {len W9 : Nat}
theorem vx_back {ws : List Cond} {rm : Room} {Pc : Array Value → State → Prop} {Qc : Array Value → State → Outcome → State → Prop} {XC : String → State → State → Prop} {mc ms : Nat} {free : Addr → Prop} {bytes : ByteArray} {maxL : Nat} {ret : Option FieldType}
    (hM : vx_Met l y ws rm Pc Qc XC mc ms free) (hblind : FrameBlind Pc) (hrc : rm.cells = mc) (hrs : rm.slots = ms)
    (hframes : rm.frames + 1 ≤ R.frames) (hlocals : W9 + (maxL + 11) + rm.locals ≤ R.locals)
    (hws : ∀ w ∈ ws, ∀ a' U, s.WarmedH U.vm → w.before a' U = true) (hcode : Cond.code y bytes maxL ret ∈ ws) (hinit : ∀ a' U, s.WarmedH U.vm → (Cond.initialized y.cls).before a' U = true) :
    vx_Back l R p e below s sargs y len W9 (PreOf R mc ms Pc) (PostOf Qc mc ms free) (vx_Post XC mc ms free) := by
  intro m meth c A g ig mk a X hg hsize hdg hW hn hp
  have h1 : (headSpec ws rm).pre.before a A.U = true := atoms_intro fun w hw => hws w hw _ _ X.warmed
  have h2 : (Cond.code y bytes maxL ret).before a A.U = true := hws _ hcode _ _ X.warmed
  have h3 : (Cond.initialized y.cls).before a A.U = true := hinit _ _ X.warmed
  have h4 : A.cells + (headSpec ws rm).room.cells ≤ R.cells := by rw [show (headSpec ws rm).room.cells = mc from hrc]; exact hp.1
  have h5 : A.slots + (headSpec ws rm).room.slots ≤ R.slots := by rw [show (headSpec ws rm).room.slots = ms from hrs]; exact hp.2.1
  have hPc : Pc a (A.U.calling g mk a) := hblind _ _ _ _ hp.2.2
  obtain ⟨U, Ls, c0, s0⟩ := A
  dsimp only [Pt.U, Pt.locs, Pt.cells, Pt.slots] at h1 h2 h3 h4 h5 X hn hPc ⊢
  obtain ⟨methY, cY, hmY, hcY, -, hlY, -, -, -, -⟩ := Cond.code_spec hn h2
  obtain ⟨kY, hkY, -⟩ := className_of_methodNamed hn
  have hinitY : kY.init = .initialized := Cond.initialized_spec (findClass_of_methodNamed hn) hkY h3
  have h : At U g.method c below := by rw [hg]; exact X.here
  have hlocals9 : W9 + (maxL + 11) + (headSpec ws rm).room.locals ≤ R.locals := hlocals
  have happ : (headSpec ws rm).appliesLoose y e.platform (U.calling g mk a) = true :=
    Spec.appliesLoose_calling (g := g) h hdg hn hkY hinitY
      (X.room_calling (g := g) (R' := (headSpec ws rm).room) hsize hmY hcY hframes (by rw [hlY]; omega) h4 h5) h1
  obtain ⟨mid, hmid⟩ := h.above
  have hfr : (U.setTop g).frames = (.java g :: mid) ++ below := by rw [State.frames_setTop' g h.top, hmid]; rfl
  obtain ⟨o, s₂, hsteps, -, hend, hq⟩ := Steps.callFree hM p X.admits X.cas X.clock (acts := []) hfr happ hPc trivial
  have hq' : vx_Q Qc XC mc ms free a (U.calling g mk a) o s₂ := hq
  rw [State.frames_setTop' g h.top] at hend
  obtain ⟨g₀, hg0⟩ := Option.isSome_iff_exists.mp h.top
  obtain ⟨r, hr⟩ := State.topJava?_eq_some.mp hg0
  have hr' : (({ U with heap := s₂.heap, slotsUsed := s₂.slotsUsed } : State).setVm s₂.vm).frames = .java g₀ :: r := hr
  rcases hq' with ⟨hqc, L, hfe, hL⟩ | ⟨q, rfl, E, ce, L, hx, hce, hcv, hcl, hW₂, hsm, hL⟩
  · obtain ⟨⟨v, rfl⟩, hW₂, e2, q2, q3, q4, q5, q6⟩ := id hfe
    have e3 : s₂ = ({ (U.calling g mk a).setFrames s₂.frames with heap := s₂.heap, slotsUsed := s₂.slotsUsed } : State).setVm s₂.vm := by
      have : s₂ = ({ s₂ with vm := (U.calling g mk a).vm } : State).setVm s₂.vm := rfl
      rw [e2] at this
      exact this
    obtain ⟨c₂, i₂, len₂, hc₂, hd₂, hf₂⟩ := hend
    have hW' : U.WarmedH s₂.vm := hW₂
    have hcc : c₂ = c := by
      have h1 : s₂.code? g.method = U.code? g.method := by
        rw [State.code?_eq, State.code?_eq, hW'.alike.method?]
      exact Option.some.inj (hc₂.symm.trans (h1.trans h.code))
    subst hcc
    have hlen : len₂ = len := by rw [hdg] at hd₂; cases hd₂; rfl
    subst hlen
    have hs₂ : s₂ = (({ U with heap := s₂.heap, slotsUsed := s₂.slotsUsed } : State).setVm s₂.vm).setTop { g with pc := g.pc + len₂, stack := v.toList ++ g.stack } := by
      refine e3.trans ?_
      rw [hf₂, State.calling_eq h.top, State.setFrames_setFrames, State.setTop_of_frames _ hr', hr]
      rfl
    have hsame : U.sameButNew ({ U with heap := s₂.heap, slotsUsed := s₂.slotsUsed } : State) L mc ms := by
      refine ⟨?_, q2, q3, q4, q5, q6⟩
      obtain ⟨t, ht, -⟩ := State.frames_cons hr
      show ({ U with heap := s₂.heap, slotsUsed := s₂.slotsUsed } : State) = { U.setFrames U.frames with heap := s₂.heap, slotsUsed := s₂.slotsUsed }
      rw [State.setFrames_self ht]
    subst hg
    refine Or.inl ⟨v, ⟨(({ U with heap := s₂.heap, slotsUsed := s₂.slotsUsed } : State).setVm s₂.vm), Ls ++ L, c0 + mc, s0 + ms⟩,
      ⟨X.admits, X.cas, X.clock, X.frames, X.room, X.hears, X.method, X.code, (X.here.setHeapUsed s₂.heap s₂.slotsUsed).setVm hW'.alike, X.tail, State.WarmedH.trans X.warmed hW', X.limits, X.bytes, X.same.trans (hsame.setVm s.vm)⟩,
      ⟨g, mk, s₂, L, rfl, rfl, hqc, rfl, hL, rfl, rfl⟩, ?_⟩
    show Steps p.tables e below _ ((({ U with heap := s₂.heap, slotsUsed := s₂.slotsUsed } : State).setVm s₂.vm).setTop { g with pc := g.pc + len₂, stack := v.toList ++ g.stack })
    rw [← hs₂]
    exact hsteps
  · obtain ⟨e2, q2, q3, q4, q5, q6⟩ := id hsm
    have e3 : s₂ = ({ (U.calling g mk a).setFrames s₂.frames with heap := s₂.heap, slotsUsed := s₂.slotsUsed } : State).setVm s₂.vm := by
      have : s₂ = ({ s₂ with vm := (U.calling g mk a).vm } : State).setVm s₂.vm := rfl
      rw [e2] at this
      exact this
    have hf₂ : s₂.frames = .throwing q :: .java g :: U.frames.tail := hend
    have hW' : U.WarmedH s₂.vm := hW₂
    have hs₂ : s₂ = ((({ U with heap := s₂.heap, slotsUsed := s₂.slotsUsed } : State).setVm s₂.vm).setTop g).pushFrame (.throwing q) := by
      refine e3.trans ?_
      rw [hf₂, State.calling_eq h.top, State.setFrames_setFrames, State.pushFrame, State.frames_setTop _ hr', State.setTop_of_frames _ hr', State.setFrames_setFrames, hr]
      rfl
    have hsame : U.sameButNew ({ U with heap := s₂.heap, slotsUsed := s₂.slotsUsed } : State) L mc ms := by
      refine ⟨?_, q2, q3, q4, q5, q6⟩
      obtain ⟨t, ht, -⟩ := State.frames_cons hr
      show ({ U with heap := s₂.heap, slotsUsed := s₂.slotsUsed } : State) = { U.setFrames U.frames with heap := s₂.heap, slotsUsed := s₂.slotsUsed }
      rw [State.setFrames_self ht]
    subst hg
    refine Or.inr ⟨q, ⟨(({ U with heap := s₂.heap, slotsUsed := s₂.slotsUsed } : State).setVm s₂.vm), Ls ++ L, c0 + mc, s0 + ms⟩,
      ⟨X.admits, X.cas, X.clock, X.frames, X.room, X.hears, X.method, X.code, (X.here.setHeapUsed s₂.heap s₂.slotsUsed).setVm hW'.alike, X.tail, State.WarmedH.trans X.warmed hW', X.limits, X.bytes, X.same.trans (hsame.setVm s.vm)⟩,
      ⟨g, mk, s₂, L, E, ce, rfl, rfl, hx, hce, hcv, hcl, rfl, hL, rfl, rfl⟩, ?_⟩
    show Steps p.tables e below _ (((({ U with heap := s₂.heap, slotsUsed := s₂.slotsUsed } : State).setVm s₂.vm).setTop g).pushFrame (.throwing q))
    rw [← hs₂]
    exact hsteps
end Payer
section Calls
variable {p : Program} {l : Launch} {e : Env} {R : Room} {s : State} {m : MethodId} {args : Array Value} {below : List Frame} {meth : Method} {c : Code} {T : State} {locs : List Loc} {cells slots : Nat}
theorem vx_callV (X : Stand p l e R s m args below meth c T locs cells slots) (hexec : p.tables.exec = Jvm.exec) {own C : String} {index : Nat} {y : MethodName} {bytes : ByteArray} {maxL : Nat} {ret : Option FieldType}
    (hown : s.vm.findClass own = some m.cls) (hlink : (Cond.methodLink own index y).before args s = true) (hinst : (Cond.instanceMethod y).before args s = true) (hsel : (Cond.selects C y y).before args s = true)
    (hcode : (Cond.code y bytes maxL ret).before args s = true) (hy : y.cls ≠ "java/lang/invoke/MethodHandle" ∧ y.cls ≠ "java/lang/invoke/VarHandle")
    {W9 : Nat} {Pre : Pt → Array Value → Prop} {Post : Pt → Array Value → Option Value → Pt → Prop} {PostX : Pt → Array Value → Addr → Pt → Prop} (hK : vx_Back l R p e below s args y 3 W9 Pre Post PostX)
    {b : Addr} {cellB : Cell} (hcell : T.heap[b]? = some cellB) (hobj : cellB.vm.isStatics = false) (hcls : s.vm.findClass C = some cellB.cls)
    {g : JFrame} (hg : g.method = m) (hsize : g.locals.size = c.maxLocals) {argsL rest : List Value} (hlen : ∀ sig, parseMethodDescriptor y.desc = some sig → argsL.length = sig.parameters.length)
    (hstack : g.stack = argsL.reverse ++ .ref b :: rest) (hW : 2 * g.monitorRoom + (rest.map fun v => v.category).sum ≤ W9) (hdg : decode c.code g.pc = .ok (.invokevirtual index, 3))
    (hpre : ∀ vm₁, s.WarmedH vm₁ → Pre ⟨T.setVm vm₁, locs, cells, slots⟩ (Value.ref b :: argsL).toArray) :
    (∃ (v : Option Value) (vm₁ : Vm) (B : Pt), s.WarmedH vm₁ ∧ Stand p l e R s m args below meth c B.U B.locs B.cells B.slots ∧ Post ⟨T.setVm vm₁, locs, cells, slots⟩ (Value.ref b :: argsL).toArray v B ∧
      ∀ target, Steps p.tables e below (B.U.setTop { g with pc := g.pc + 3, stack := v.toList ++ rest }) target → Steps p.tables e below (T.setTop g) target) ∨
    (∃ (q : Addr) (vm₁ : Vm) (B : Pt), s.WarmedH vm₁ ∧ Stand p l e R s m args below meth c B.U B.locs B.cells B.slots ∧ PostX ⟨T.setVm vm₁, locs, cells, slots⟩ (Value.ref b :: argsL).toArray q B ∧
      Steps p.tables e below (T.setTop g) ((B.U.setTop { g with stack := rest }).pushFrame (.throwing q))) := by
  obtain ⟨mk, methM, hnamed, hmethM, hstM, habM⟩ := Cond.instanceMethod_spec hinst
  obtain ⟨methM', cM, hmethM', -, -, -, -, -, -, hsigM⟩ := Cond.code_spec hnamed hcode
  cases hmethM.symm.trans hmethM'
  obtain ⟨c2, r2, m2, q1, q2, q3, q4, kP, hkP, hkPi⟩ := Cond.selects_spec hsel
  cases hcls.symm.trans q1
  cases (State.methodFound?_of_named hnamed hy).symm.trans q2
  cases hnamed.symm.trans q3
  have hselP : selectMethod e.platform s.vm cellB.cls mk = .method mk := by rw [Launch.admits_selectMethod X.admits]; exact q4
  obtain ⟨vm₁, X₁, hstep₁⟩ := X.invokevirtual hexec hown hlink hnamed hmethM hstM hkP hkPi hy (a := b) (cell := cellB) hcell
    (fun z h => by rw [h] at hobj; cases hobj) hselP hmethM habM hkP hkPi (g := g) hg (argsL := argsL) (rest := rest) (hlen _ hsigM) hstack hdg
  rcases hK m meth c ⟨T.setVm vm₁, locs, cells, slots⟩ { g with stack := rest } (.invokevirtual index) mk (Value.ref b :: argsL).toArray X₁ hg hsize hdg hW (X₁.named hnamed) (hpre vm₁ X₁.warmed) with ⟨v, B, X', hpost, hsteps⟩ | ⟨q, B, X', hpost, hsteps⟩
  · exact Or.inl ⟨v, vm₁, B, X₁.warmed, X', hpost, fun target h => hstep₁ _ fun acts => by rw [doInvoke_state]; exact hsteps.trans h⟩
  · exact Or.inr ⟨q, vm₁, B, X₁.warmed, X', hpost, hstep₁ _ fun acts => by rw [doInvoke_state]; exact hsteps⟩
theorem vx_callS (X : Stand p l e R s m args below meth c T locs cells slots) (hexec : p.tables.exec = Jvm.exec) {own : String} {index : Nat} {y : MethodName} {bytes : ByteArray} {maxL : Nat} {ret : Option FieldType}
    (hown : s.vm.findClass own = some m.cls) (hlink : (Cond.methodLink own index y).before args s = true) (hstat : (Cond.static y).before args s = true) (hinit : (Cond.initialized y.cls).before args s = true)
    (hcode : (Cond.code y bytes maxL ret).before args s = true) (hy : y.cls ≠ "java/lang/invoke/MethodHandle" ∧ y.cls ≠ "java/lang/invoke/VarHandle")
    {W9 : Nat} {Pre : Pt → Array Value → Prop} {Post : Pt → Array Value → Option Value → Pt → Prop} {PostX : Pt → Array Value → Addr → Pt → Prop} (hK : vx_Back l R p e below s args y 3 W9 Pre Post PostX)
    {g : JFrame} (hg : g.method = m) (hsize : g.locals.size = c.maxLocals) {argsL rest : List Value} (hlen : ∀ sig, parseMethodDescriptor y.desc = some sig → argsL.length = sig.parameters.length)
    (hstack : g.stack = argsL.reverse ++ rest) (hW : 2 * g.monitorRoom + (rest.map fun v => v.category).sum ≤ W9) (hdg : decode c.code g.pc = .ok (.invokestatic index, 3))
    (hpre : ∀ vm₁, s.WarmedH vm₁ → Pre ⟨T.setVm vm₁, locs, cells, slots⟩ argsL.toArray) :
    (∃ (v : Option Value) (vm₁ : Vm) (B : Pt), s.WarmedH vm₁ ∧ Stand p l e R s m args below meth c B.U B.locs B.cells B.slots ∧ Post ⟨T.setVm vm₁, locs, cells, slots⟩ argsL.toArray v B ∧
      ∀ target, Steps p.tables e below (B.U.setTop { g with pc := g.pc + 3, stack := v.toList ++ rest }) target → Steps p.tables e below (T.setTop g) target) ∨
    (∃ (q : Addr) (vm₁ : Vm) (B : Pt), s.WarmedH vm₁ ∧ Stand p l e R s m args below meth c B.U B.locs B.cells B.slots ∧ PostX ⟨T.setVm vm₁, locs, cells, slots⟩ argsL.toArray q B ∧
      Steps p.tables e below (T.setTop g) ((B.U.setTop { g with stack := rest }).pushFrame (.throwing q))) := by
  obtain ⟨mk, hnamed⟩ := Cond.code_named hcode
  obtain ⟨methM, cM, hmethM, -, -, -, -, -, -, hsigM⟩ := Cond.code_spec hnamed hcode
  have hstatic : methM.isStatic = true := Cond.static_spec hnamed hmethM hstat
  obtain ⟨kP, hkP, -⟩ := className_of_methodNamed hnamed
  have hinitP : kP.init = .initialized := Cond.initialized_spec (findClass_of_methodNamed hnamed) hkP hinit
  obtain ⟨vm₁, X₁, hstep₁⟩ := X.invokestatic hexec hown hlink hnamed hmethM hstatic hkP hinitP hy (g := g) hg (argsL := argsL) (rest := rest) (hlen _ hsigM) hstack hdg
  rcases hK m meth c ⟨T.setVm vm₁, locs, cells, slots⟩ { g with stack := rest } (.invokestatic index) mk argsL.toArray X₁ hg hsize hdg hW (X₁.named hnamed) (hpre vm₁ X₁.warmed) with ⟨v, B, X', hpost, hsteps⟩ | ⟨q, B, X', hpost, hsteps⟩
  · exact Or.inl ⟨v, vm₁, B, X₁.warmed, X', hpost, fun target h => hstep₁ _ fun acts => by rw [doInvoke_state]; exact hsteps.trans h⟩
  · exact Or.inr ⟨q, vm₁, B, X₁.warmed, X', hpost, hstep₁ _ fun acts => by rw [doInvoke_state]; exact hsteps⟩
end Calls
theorem vx_cls {s : State} {T : State} {vm₁ : Vm} {E : String} {k : ClassId} (hW : s.WarmedH vm₁) (h : (T.setVm vm₁).vm.findClass E = some k) : s.vm.findClass E = some k := by
  have h1 : vm₁.findClass E = some k := h
  rw [hW.alike.findClass] at h1
  exact h1
/-- the method's frame g, with q thrown over it -/
def vx_W (p : Program) (l : Launch) (e : Env) (R : Room) (s : State) (m : MethodId) (args : Array Value) (below : List Frame) (meth : Method) (c : Code) (H : Heap) (locs : List Loc) (cells slots : Nat) (Q : State → Prop) (g : JFrame) (q : Addr) : Prop :=
  ∀ T : State, T.heap = H → Stand p l e R s m args below meth c T locs cells slots → ∃ t, Steps p.tables e below ((T.setTop g).pushFrame (.throwing q)) t ∧ Q t
def vx_Run (p : Program) (l : Launch) (e : Env) (R : Room) (s : State) (m : MethodId) (args : Array Value) (below : List Frame) (meth : Method) (c : Code) (H : Heap) (locs : List Loc) (cells slots mc ms : Nat) (g : JFrame) (rest : List Value) (Qa : State → Outcome → State → Prop) (XC : String → State → State → Prop) (free : Addr → Prop) : Prop :=
  ∀ T : State, T.heap = H → Stand p l e R s m args below meth c T locs cells slots →
    (∃ (v : Option Value) (st₀ t T' : State) (L : List Loc), st₀.heap = H ∧ Stand p l e R s m args below meth c T' (locs ++ L) (cells + mc) (slots + ms) ∧ (∀ q ∈ L, free q.base) ∧ T'.heap = t.heap ∧ T'.vm = t.vm ∧ Qa st₀ (.returned v) t ∧
      Goes p e below T g T' { g with pc := g.pc + 3, stack := v.toList ++ rest }) ∨
    (∃ (q : Addr) (st₀ t T' : State) (L : List Loc) (E : String) (ce : Cell), st₀.heap = H ∧ Stand p l e R s m args below meth c T' (locs ++ L) (cells + mc) (slots + ms) ∧ (∀ z ∈ L, free z.base) ∧ T'.heap = t.heap ∧ T'.vm = t.vm ∧ XC E st₀ t ∧ t.heap[q]? = some ce ∧ ce.vm = .none ∧ s.vm.findClass E = some ce.cls ∧
      Steps p.tables e below (T.setTop g) ((T'.setTop { g with stack := rest }).pushFrame (.throwing q)))
def vx_X {S : Type} (px : S → Prop) (B : String → S → State → Prop) (A : Nat → Prop) : String → State → State → Prop := fun E st t => ∃ u : S, px u ∧ B E u t ∧ va_F A st t
section Runs
variable {p : Program} {l : Launch} {e : Env} {R : Room} {s : State} {m : MethodId} {args : Array Value} {below : List Frame} {meth : Method} {c : Code} {H : Heap} {locs : List Loc} {cells slots : Nat}
variable {y : MethodName} {bytes cc : ByteArray} {maxL nL mc ms n index : Nat} {ret : Option FieldType} {ws : List Cond} {rm : Room} {Pc : Array Value → State → Prop} {Qc : Array Value → State → Outcome → State → Prop} {XC : String → State → State → Prop} {free : Addr → Prop} {Ts : List Cond} {own C : String} {b : Addr} {As rest : List Value} {g : JFrame}
theorem vx_callBack (cb : CallB R s args own index y bytes maxL ret ws rm mc ms n) (hM : vx_Met l y ws rm Pc Qc XC mc ms free) (hbl : FrameBlind Pc) : vx_Back l R p e below s args y 3 8 (PreOf R mc ms Pc) (PostOf Qc mc ms free) (vx_Post XC mc ms free) := by
  obtain ⟨hrc, hrs, hfr, hlo, hws, hcw, -, hini, -⟩ := cb
  exact vx_back (bytes := bytes) (maxL := maxL) (ret := ret) hM hbl hrc hrs hfr hlo hws hcw (fun a' U hW => word_at hW (Or.inl (by first | rfl | simp [Cond.onTables, Cond.keeps, Cond.steady])) hini)
theorem vx_runV (S : CallFix p m c cc nL s args Ts own) (hM : vx_Met l y ws rm Pc Qc XC mc ms free) (cw : CallW R s args own C index y bytes maxL ret ws rm mc ms n) (hp : PreV s H C b Pc As)
    (hg : g.method = m) (hn : As.length = n) (hsize : g.locals.size = nL) (hstack : g.stack = As.reverse ++ .ref b :: rest) (hW : 2 * g.monitorRoom + (rest.map fun v => v.category).sum ≤ 8) (hdg : decode cc g.pc = .ok (.invokevirtual index, 3)) (hf : cells + mc ≤ R.cells ∧ slots + ms ≤ R.slots) :
    vx_Run p l e R s m args below meth c H locs cells slots mc ms g rest (Qc (Value.ref b :: As).toArray) XC free := by
  have hK : vx_Back l R p e below s args y 3 8 (PreOf R mc ms Pc) (PostOf Qc mc ms free) (vx_Post XC mc ms free) := vx_callBack cw.1 hM hp.1
  obtain ⟨⟨-, -, -, -, -, -, hcode, -, hy, hlen, hl⟩, hin, hse⟩ := cw
  obtain ⟨hx, hb, hml, ho, -⟩ := S
  obtain ⟨-, ⟨cellB, hcB, hoB, hclB⟩, hPc⟩ := hp
  intro T hT X
  rcases vx_callV X hx (C := C) (bytes := bytes) (maxL := maxL) (ret := ret) ho hl hin hse hcode hy hK (by rw [hT]; exact hcB) hoB hclB hg (hsize.trans hml.symm) (argsL := As) (rest := rest) (fun sig h => hn.trans (hlen sig h)) hstack hW (by rw [hb]; exact hdg)
    (fun vm₁ hW₁ => ⟨hf.1, hf.2, hPc (T.setVm vm₁) hT hW₁⟩) with ⟨v, vm₁, ⟨U', l2, c2, s2⟩, hW₁, X', ⟨g', mk, t, L, e1, e2, hq, h1, hL, h2, h3⟩, st⟩ | ⟨q, vm₁, ⟨U', l2, c2, s2⟩, hW₁, X', ⟨g', mk, t, L, E, ce, e1, e2, hq, hce, hcv, hcl, h1, hL, h2, h3⟩, st⟩
  · dsimp only [Pt.U, Pt.locs, Pt.cells, Pt.slots] at X' e1 e2 h1 h2 h3 st
    subst h1; subst h2; subst h3
    exact Or.inl ⟨v, (T.setVm vm₁).calling g' mk (Value.ref b :: As).toArray, t, U', L, hT, X', hL, e1, e2, hq, st⟩
  · dsimp only [Pt.U, Pt.locs, Pt.cells, Pt.slots] at X' e1 e2 h1 h2 h3 st hcl
    subst h1; subst h2; subst h3
    exact Or.inr ⟨q, (T.setVm vm₁).calling g' mk (Value.ref b :: As).toArray, t, U', L, E, ce, hT, X', hL, e1, e2, hq, hce, hcv, vx_cls hW₁ hcl, st⟩
theorem vx_runS (S : CallFix p m c cc nL s args Ts own) (hM : vx_Met l y ws rm Pc Qc XC mc ms free) (cw : CallB R s args own index y bytes maxL ret ws rm mc ms n ∧ (Cond.static y).before args s = true) (hp : PreS s H Pc As)
    (hg : g.method = m) (hn : As.length = n) (hsize : g.locals.size = nL) (hstack : g.stack = As.reverse ++ rest) (hW : 2 * g.monitorRoom + (rest.map fun v => v.category).sum ≤ 8) (hdg : decode cc g.pc = .ok (.invokestatic index, 3)) (hf : cells + mc ≤ R.cells ∧ slots + ms ≤ R.slots) :
    vx_Run p l e R s m args below meth c H locs cells slots mc ms g rest (Qc As.toArray) XC free := by
  have hK : vx_Back l R p e below s args y 3 8 (PreOf R mc ms Pc) (PostOf Qc mc ms free) (vx_Post XC mc ms free) := vx_callBack cw.1 hM hp.1
  obtain ⟨⟨-, -, -, -, -, -, hcode, hini, hy, hlen, hl⟩, hstt⟩ := cw
  obtain ⟨hx, hb, hml, ho, -⟩ := S
  intro T hT X
  rcases vx_callS X hx (bytes := bytes) (maxL := maxL) (ret := ret) ho hl hstt hini hcode hy hK hg (hsize.trans hml.symm) (argsL := As) (rest := rest) (fun sig h => hn.trans (hlen sig h)) hstack hW (by rw [hb]; exact hdg)
    (fun vm₁ hW₁ => ⟨hf.1, hf.2, hp.2 (T.setVm vm₁) hT hW₁⟩) with ⟨v, vm₁, ⟨U', l2, c2, s2⟩, hW₁, X', ⟨g', mk, t, L, e1, e2, hq, h1, hL, h2, h3⟩, st⟩ | ⟨q, vm₁, ⟨U', l2, c2, s2⟩, hW₁, X', ⟨g', mk, t, L, E, ce, e1, e2, hq, hce, hcv, hcl, h1, hL, h2, h3⟩, st⟩
  · dsimp only [Pt.U, Pt.locs, Pt.cells, Pt.slots] at X' e1 e2 h1 h2 h3 st
    subst h1; subst h2; subst h3
    exact Or.inl ⟨v, (T.setVm vm₁).calling g' mk As.toArray, t, U', L, hT, X', hL, e1, e2, hq, st⟩
  · dsimp only [Pt.U, Pt.locs, Pt.cells, Pt.slots] at X' e1 e2 h1 h2 h3 st hcl
    subst h1; subst h2; subst h3
    exact Or.inr ⟨q, (T.setVm vm₁).calling g' mk As.toArray, t, U', L, E, ce, hT, X', hL, e1, e2, hq, hce, hcv, vx_cls hW₁ hcl, st⟩
end Runs
section Rows
variable {p : Program} {l : Launch} {e : Env} {R : Room} {s : State} {m : MethodId} {args : Array Value} {below : List Frame} {meth : Method} {c : Code} {H : Heap} {locs : List Loc} {cells slots : Nat} {Q : State → Prop}
variable {mc ms : Nat} {free : Addr → Prop} {A0 A1 : Nat → Prop} {H0 : Heap} {a : Array Value} {pc : Nat} {ls : Array Slot} {st0 rest : List Value}
theorem vx_keep {st₀ t T' : State} {L : List Loc} (h0 : st₀.heap = H) (e1 : T'.heap = t.heap) (hS : va_S A0 H0 H locs) (hA : ∀ q, q < H.size → A1 q → A0 q) (hf : ∀ q, free q → A0 q) (hL : ∀ q ∈ L, free q.base) (hF : va_F A1 st₀ t) :
    H.size ≤ T'.heap.size ∧ (∀ q : Nat, q < H.size → ¬ A1 q → T'.heap[q]? = H[q]?) ∧ va_S A0 H0 T'.heap (locs ++ L) := by
  obtain ⟨hz, hk⟩ := hF
  rw [h0] at hz hk
  exact ⟨by rw [e1]; exact hz, fun q h1 h2 => by rw [e1]; exact hk q h1 h2,
    ⟨Nat.le_trans hS.1 (by rw [e1]; exact hz), fun q h1 h2 => by rw [e1, hk q (Nat.lt_of_lt_of_le h1 hS.1) (fun z => h2 (hA q (Nat.lt_of_lt_of_le h1 hS.1) z))]; exact hS.2.1 q h1 h2, fun q hq => by
      rcases List.mem_append.mp hq with h | h
      · exact hS.2.2 q h
      · exact hf _ (hL q h)⟩⟩
theorem vx_calli {S SX : Type} {post : Int32 → S → Prop} {px : SX → Prop} {B : S → State → Prop} {BX : String → SX → State → Prop} {AX : Nat → Prop} (hr : vx_Run p l e R s m args below meth c H locs cells slots mc ms (F0 m pc ls st0) rest (va_Qi post B A1 a) (vx_X px BX AX) free) (hS : va_S A0 H0 H locs) (hA : ∀ q, q < H.size → A1 q → A0 q) (hf : ∀ q, free q → A0 q) (hAX : ∀ q, q < H.size → AX q → A0 q)
    (kx : ∀ (E : String) (ce : Cell) (q9 : Addr) (u : SX) (t : State) (H1 : Heap) (locs1 : List Loc), t.heap = H1 → s.vm.Alike t.vm → px u → BX E u t → H.size ≤ H1.size → (∀ q : Nat, q < H.size → ¬ AX q → H1[q]? = H[q]?) → va_S A0 H0 H1 locs1 → H1[q9]? = some ce → ce.vm = .none → s.vm.findClass E = some ce.cls → vx_W p l e R s m args below meth c H1 locs1 (cells + mc) (slots + ms) Q (F0 m pc ls rest) q9)
    (kk : ∀ (r : Int32) (u : S) (t : State) (H1 : Heap) (locs1 : List Loc), t.heap = H1 → s.vm.Alike t.vm → post r u → B u t → H.size ≤ H1.size → (∀ q : Nat, q < H.size → ¬ A1 q → H1[q]? = H[q]?) → va_S A0 H0 H1 locs1 → W p l e R s m args below meth c H1 locs1 (cells + mc) (slots + ms) Q (F0 m (pc + 3) ls (.int r :: rest))) : W p l e R s m args below meth c H locs cells slots Q (F0 m pc ls st0) := by
  intro T hT X
  rcases hr T hT X with ⟨v, st₀, t, T', L, h0, X', hL, e1, e2, ⟨⟨r, u, hv, hp, hb⟩, hF⟩, st⟩ | ⟨q, st₀, t, T', L, E, ce, h0, X', hL, e1, e2, ⟨u, hp, hb, hF⟩, hce, hcv, hcl, st⟩
  · cases hv
    obtain ⟨k1, k2, k3⟩ := vx_keep h0 e1 hS hA hf hL hF
    obtain ⟨t2, a1, b1⟩ := kk r u t T'.heap (locs ++ L) e1.symm (by rw [← e2]; exact X'.warmed.alike) hp hb k1 k2 k3 T' rfl X'
    exact ⟨t2, st t2 a1, b1⟩
  · obtain ⟨k1, k2, k3⟩ := vx_keep h0 e1 hS hAX hf hL hF
    obtain ⟨t2, a1, b1⟩ := kx E ce q u t T'.heap (locs ++ L) e1.symm (by rw [← e2]; exact X'.warmed.alike) hp hb k1 k2 k3 (by rw [e1]; exact hce) hcv hcl T' rfl X'
    exact ⟨t2, st.trans a1, b1⟩
theorem vx_calll {S SX : Type} {post : Int64 → S → Prop} {px : SX → Prop} {B : S → State → Prop} {BX : String → SX → State → Prop} {AX : Nat → Prop} (hr : vx_Run p l e R s m args below meth c H locs cells slots mc ms (F0 m pc ls st0) rest (va_Ql post B A1 a) (vx_X px BX AX) free) (hS : va_S A0 H0 H locs) (hA : ∀ q, q < H.size → A1 q → A0 q) (hf : ∀ q, free q → A0 q) (hAX : ∀ q, q < H.size → AX q → A0 q)
    (kx : ∀ (E : String) (ce : Cell) (q9 : Addr) (u : SX) (t : State) (H1 : Heap) (locs1 : List Loc), t.heap = H1 → s.vm.Alike t.vm → px u → BX E u t → H.size ≤ H1.size → (∀ q : Nat, q < H.size → ¬ AX q → H1[q]? = H[q]?) → va_S A0 H0 H1 locs1 → H1[q9]? = some ce → ce.vm = .none → s.vm.findClass E = some ce.cls → vx_W p l e R s m args below meth c H1 locs1 (cells + mc) (slots + ms) Q (F0 m pc ls rest) q9)
    (kk : ∀ (r : Int64) (u : S) (t : State) (H1 : Heap) (locs1 : List Loc), t.heap = H1 → s.vm.Alike t.vm → post r u → B u t → H.size ≤ H1.size → (∀ q : Nat, q < H.size → ¬ A1 q → H1[q]? = H[q]?) → va_S A0 H0 H1 locs1 → W p l e R s m args below meth c H1 locs1 (cells + mc) (slots + ms) Q (F0 m (pc + 3) ls (.long r :: rest))) : W p l e R s m args below meth c H locs cells slots Q (F0 m pc ls st0) := by
  intro T hT X
  rcases hr T hT X with ⟨v, st₀, t, T', L, h0, X', hL, e1, e2, ⟨⟨r, u, hv, hp, hb⟩, hF⟩, st⟩ | ⟨q, st₀, t, T', L, E, ce, h0, X', hL, e1, e2, ⟨u, hp, hb, hF⟩, hce, hcv, hcl, st⟩
  · cases hv
    obtain ⟨k1, k2, k3⟩ := vx_keep h0 e1 hS hA hf hL hF
    obtain ⟨t2, a1, b1⟩ := kk r u t T'.heap (locs ++ L) e1.symm (by rw [← e2]; exact X'.warmed.alike) hp hb k1 k2 k3 T' rfl X'
    exact ⟨t2, st t2 a1, b1⟩
  · obtain ⟨k1, k2, k3⟩ := vx_keep h0 e1 hS hAX hf hL hF
    obtain ⟨t2, a1, b1⟩ := kx E ce q u t T'.heap (locs ++ L) e1.symm (by rw [← e2]; exact X'.warmed.alike) hp hb k1 k2 k3 (by rw [e1]; exact hce) hcv hcl T' rfl X'
    exact ⟨t2, st.trans a1, b1⟩
theorem vx_callf {S SX : Type} {post : UInt32 → S → Prop} {px : SX → Prop} {B : S → State → Prop} {BX : String → SX → State → Prop} {AX : Nat → Prop} (hr : vx_Run p l e R s m args below meth c H locs cells slots mc ms (F0 m pc ls st0) rest (va_Qf post B A1 a) (vx_X px BX AX) free) (hS : va_S A0 H0 H locs) (hA : ∀ q, q < H.size → A1 q → A0 q) (hf : ∀ q, free q → A0 q) (hAX : ∀ q, q < H.size → AX q → A0 q)
    (kx : ∀ (E : String) (ce : Cell) (q9 : Addr) (u : SX) (t : State) (H1 : Heap) (locs1 : List Loc), t.heap = H1 → s.vm.Alike t.vm → px u → BX E u t → H.size ≤ H1.size → (∀ q : Nat, q < H.size → ¬ AX q → H1[q]? = H[q]?) → va_S A0 H0 H1 locs1 → H1[q9]? = some ce → ce.vm = .none → s.vm.findClass E = some ce.cls → vx_W p l e R s m args below meth c H1 locs1 (cells + mc) (slots + ms) Q (F0 m pc ls rest) q9)
    (kk : ∀ (r : UInt32) (u : S) (t : State) (H1 : Heap) (locs1 : List Loc), t.heap = H1 → s.vm.Alike t.vm → post r u → B u t → H.size ≤ H1.size → (∀ q : Nat, q < H.size → ¬ A1 q → H1[q]? = H[q]?) → va_S A0 H0 H1 locs1 → W p l e R s m args below meth c H1 locs1 (cells + mc) (slots + ms) Q (F0 m (pc + 3) ls (.float r :: rest))) : W p l e R s m args below meth c H locs cells slots Q (F0 m pc ls st0) := by
  intro T hT X
  rcases hr T hT X with ⟨v, st₀, t, T', L, h0, X', hL, e1, e2, ⟨⟨r, u, hv, hp, hb⟩, hF⟩, st⟩ | ⟨q, st₀, t, T', L, E, ce, h0, X', hL, e1, e2, ⟨u, hp, hb, hF⟩, hce, hcv, hcl, st⟩
  · cases hv
    obtain ⟨k1, k2, k3⟩ := vx_keep h0 e1 hS hA hf hL hF
    obtain ⟨t2, a1, b1⟩ := kk r u t T'.heap (locs ++ L) e1.symm (by rw [← e2]; exact X'.warmed.alike) hp hb k1 k2 k3 T' rfl X'
    exact ⟨t2, st t2 a1, b1⟩
  · obtain ⟨k1, k2, k3⟩ := vx_keep h0 e1 hS hAX hf hL hF
    obtain ⟨t2, a1, b1⟩ := kx E ce q u t T'.heap (locs ++ L) e1.symm (by rw [← e2]; exact X'.warmed.alike) hp hb k1 k2 k3 (by rw [e1]; exact hce) hcv hcl T' rfl X'
    exact ⟨t2, st.trans a1, b1⟩
theorem vx_calld {S SX : Type} {post : UInt64 → S → Prop} {px : SX → Prop} {B : S → State → Prop} {BX : String → SX → State → Prop} {AX : Nat → Prop} (hr : vx_Run p l e R s m args below meth c H locs cells slots mc ms (F0 m pc ls st0) rest (va_Qd post B A1 a) (vx_X px BX AX) free) (hS : va_S A0 H0 H locs) (hA : ∀ q, q < H.size → A1 q → A0 q) (hf : ∀ q, free q → A0 q) (hAX : ∀ q, q < H.size → AX q → A0 q)
    (kx : ∀ (E : String) (ce : Cell) (q9 : Addr) (u : SX) (t : State) (H1 : Heap) (locs1 : List Loc), t.heap = H1 → s.vm.Alike t.vm → px u → BX E u t → H.size ≤ H1.size → (∀ q : Nat, q < H.size → ¬ AX q → H1[q]? = H[q]?) → va_S A0 H0 H1 locs1 → H1[q9]? = some ce → ce.vm = .none → s.vm.findClass E = some ce.cls → vx_W p l e R s m args below meth c H1 locs1 (cells + mc) (slots + ms) Q (F0 m pc ls rest) q9)
    (kk : ∀ (r : UInt64) (u : S) (t : State) (H1 : Heap) (locs1 : List Loc), t.heap = H1 → s.vm.Alike t.vm → post r u → B u t → H.size ≤ H1.size → (∀ q : Nat, q < H.size → ¬ A1 q → H1[q]? = H[q]?) → va_S A0 H0 H1 locs1 → W p l e R s m args below meth c H1 locs1 (cells + mc) (slots + ms) Q (F0 m (pc + 3) ls (.double r :: rest))) : W p l e R s m args below meth c H locs cells slots Q (F0 m pc ls st0) := by
  intro T hT X
  rcases hr T hT X with ⟨v, st₀, t, T', L, h0, X', hL, e1, e2, ⟨⟨r, u, hv, hp, hb⟩, hF⟩, st⟩ | ⟨q, st₀, t, T', L, E, ce, h0, X', hL, e1, e2, ⟨u, hp, hb, hF⟩, hce, hcv, hcl, st⟩
  · cases hv
    obtain ⟨k1, k2, k3⟩ := vx_keep h0 e1 hS hA hf hL hF
    obtain ⟨t2, a1, b1⟩ := kk r u t T'.heap (locs ++ L) e1.symm (by rw [← e2]; exact X'.warmed.alike) hp hb k1 k2 k3 T' rfl X'
    exact ⟨t2, st t2 a1, b1⟩
  · obtain ⟨k1, k2, k3⟩ := vx_keep h0 e1 hS hAX hf hL hF
    obtain ⟨t2, a1, b1⟩ := kx E ce q u t T'.heap (locs ++ L) e1.symm (by rw [← e2]; exact X'.warmed.alike) hp hb k1 k2 k3 (by rw [e1]; exact hce) hcv hcl T' rfl X'
    exact ⟨t2, st.trans a1, b1⟩
theorem vx_callv {S SX : Type} {post : S → Prop} {px : SX → Prop} {B : S → State → Prop} {BX : String → SX → State → Prop} {AX : Nat → Prop} (hr : vx_Run p l e R s m args below meth c H locs cells slots mc ms (F0 m pc ls st0) rest (va_Qv post B A1 a) (vx_X px BX AX) free) (hS : va_S A0 H0 H locs) (hA : ∀ q, q < H.size → A1 q → A0 q) (hf : ∀ q, free q → A0 q) (hAX : ∀ q, q < H.size → AX q → A0 q)
    (kx : ∀ (E : String) (ce : Cell) (q9 : Addr) (u : SX) (t : State) (H1 : Heap) (locs1 : List Loc), t.heap = H1 → s.vm.Alike t.vm → px u → BX E u t → H.size ≤ H1.size → (∀ q : Nat, q < H.size → ¬ AX q → H1[q]? = H[q]?) → va_S A0 H0 H1 locs1 → H1[q9]? = some ce → ce.vm = .none → s.vm.findClass E = some ce.cls → vx_W p l e R s m args below meth c H1 locs1 (cells + mc) (slots + ms) Q (F0 m pc ls rest) q9)
    (kk : ∀ (u : S) (t : State) (H1 : Heap) (locs1 : List Loc), t.heap = H1 → s.vm.Alike t.vm → post u → B u t → H.size ≤ H1.size → (∀ q : Nat, q < H.size → ¬ A1 q → H1[q]? = H[q]?) → va_S A0 H0 H1 locs1 → W p l e R s m args below meth c H1 locs1 (cells + mc) (slots + ms) Q (F0 m (pc + 3) ls (rest))) : W p l e R s m args below meth c H locs cells slots Q (F0 m pc ls st0) := by
  intro T hT X
  rcases hr T hT X with ⟨v, st₀, t, T', L, h0, X', hL, e1, e2, ⟨⟨u, hv, hp, hb⟩, hF⟩, st⟩ | ⟨q, st₀, t, T', L, E, ce, h0, X', hL, e1, e2, ⟨u, hp, hb, hF⟩, hce, hcv, hcl, st⟩
  · cases hv
    obtain ⟨k1, k2, k3⟩ := vx_keep h0 e1 hS hA hf hL hF
    obtain ⟨t2, a1, b1⟩ := kk u t T'.heap (locs ++ L) e1.symm (by rw [← e2]; exact X'.warmed.alike) hp hb k1 k2 k3 T' rfl X'
    exact ⟨t2, st t2 a1, b1⟩
  · obtain ⟨k1, k2, k3⟩ := vx_keep h0 e1 hS hAX hf hL hF
    obtain ⟨t2, a1, b1⟩ := kx E ce q u t T'.heap (locs ++ L) e1.symm (by rw [← e2]; exact X'.warmed.alike) hp hb k1 k2 k3 (by rw [e1]; exact hce) hcv hcl T' rfl X'
    exact ⟨t2, st.trans a1, b1⟩
/-- caught by the row x of this method's table; the rows ahead don't take it -/
theorem vx_catch {own name : String} {E : String} {ce : Cell} {q : Addr} (hown : s.vm.findClass own = some m.cls) (pre : List ExceptionTableEntry) (x : ExceptionTableEntry) (suf : List ExceptionTableEntry) (hsplit : c.exceptionTable.toList = pre ++ x :: suf)
    (hpass : ∀ z ∈ pre, covers z pc = false ∨ (z.catchType ≠ 0 ∧ ∃ nm : String, (Cond.classLink own z.catchType nm).before args s = true ∧ va_Nc E nm s)) (hx : covers x pc = true) (h0 : x.catchType ≠ 0)
    (hlink : (Cond.classLink own x.catchType name).before args s = true) (hcast : (Cond.castable E name).before args s = true) (hcell : H[q]? = some ce) (hv : ce.vm = .none) (hcl : s.vm.findClass E = some ce.cls)
    (kk : W p l e R s m args below meth c H locs cells slots Q (F0 m x.handlerPc ls [.ref q])) : vx_W p l e R s m args below meth c H locs cells slots Q (F0 m pc ls rest) q := by
  intro T hT X
  have hpl : e.platform.magicAccessors = ({} : Platform).magicAccessors := by rw [X.admits.platform]
  obtain ⟨c3, c4, hc3, hc4, hasg⟩ := Cond.castable_spec hcast
  cases Option.some.inj (hc3.symm.trans hcl)
  obtain ⟨c5, hc5, hcl5⟩ := Cond.classLink_spec hown hlink e.platform hpl
  cases Option.some.inj (hc4.symm.trans hc5)
  obtain ⟨vm', X', st⟩ := X.thenCaughtThrough q (g := F0 m pc ls rest) rfl (Steps.refl _) (by rw [hT]; exact hcell) (by rw [hv]; rfl) (by obtain ⟨k9, h9, -⟩ := Vm.findClass_spec hcl; exact ⟨k9, h9⟩) pre x suf hsplit
    (fun z hz => by
      rcases hpass z hz with h | ⟨hz0, nm, hl1, hn1⟩
      · exact Or.inl h
      · obtain ⟨c6, hc6, hcl6⟩ := Cond.classLink_spec hown hl1 e.platform hpl
        obtain ⟨a8, b8, h1, h2, h3⟩ := hn1
        cases Option.some.inj (h1.symm.trans hcl)
        cases Option.some.inj (h2.symm.trans hc6)
        exact Or.inr ⟨hz0, _, hcl6, h3⟩) hx (Or.inr ⟨h0, c4, hcl5, hasg⟩)
  obtain ⟨t, a1, b1⟩ := kk (T.setVm vm') hT X'
  exact ⟨t, st.trans a1, b1⟩
end Rows
section Ends
variable {p : Program} {l : Launch} {e : Env} {R : Room} {s : State} {m : MethodId} {args : Array Value} {below : List Frame} {meth : Method} {c : Code} {H : Heap} {locs : List Loc} {cells slots : Nat} {Q : State → Prop}
variable {mc ms : Nat} {free : Addr → Prop} {A0 A1 : Nat → Prop} {H0 : Heap} {a : Array Value} {ls : Array Slot} {st0 rest : List Value}
variable {Qc : Array Value → State → Outcome → State → Prop} {XC : String → State → State → Prop}
/-- what a body that may throw owes at its end -/
def vx_MQ (below : List Frame) (Qc : Array Value → State → Outcome → State → Prop) (XC : String → State → State → Prop) (a : Array Value) (s : State) (mc ms : Nat) (free : Addr → Prop) : State → Prop := fun t =>
  ∃ o, t.status = .running ∧ Ended t below o ∧ vx_Q Qc XC mc ms free a s o t
theorem vx_ret {g : JFrame} {mc ms : Nat} (k : W p l e R s m args below meth c H locs cells slots (MQ below Qc args s mc ms free) g) : W p l e R s m args below meth c H locs cells slots (vx_MQ below Qc XC args s mc ms free) g := by
  intro T hT X
  obtain ⟨t, a1, o, b1, b2, b3, b4⟩ := k T hT X
  exact ⟨t, a1, o, b1, b2, Or.inl ⟨b3, b4⟩⟩
/-- not caught here: it goes on to the caller -/
theorem vx_widen {g : JFrame} {q : Addr} {k n : Nat} (h1 : cells ≤ k) (h2 : slots ≤ n) (kk : vx_W p l e R s m args below meth c H locs k n Q g q) : vx_W p l e R s m args below meth c H locs cells slots Q g q := fun T hT X => kk T hT (stand_widen X h1 h2)
theorem vx_out {pc : Nat} {E : String} {ce : Cell} {q : Addr} {mc ms : Nat} (hout : ∀ x ∈ c.exceptionTable.toList, covers x pc = false) (hlocks : meth.locks = false) (hcell : H[q]? = some ce) (hv : ce.vm = .none) (hcl : s.vm.findClass E = some ce.cls)
    (hx : ∀ t : State, t.heap = H → s.vm.Alike t.vm → XC E s t) (hf : ∀ z ∈ locs, free z.base) (hc : cells ≤ mc) (hs : slots ≤ ms) :
    vx_W p l e R s m args below meth c H locs cells slots (vx_MQ below Qc XC args s mc ms free) (F0 m pc ls rest) q := by
  intro T hT X
  obtain ⟨st1, hrun, hend, hW, hsm⟩ := X.leaveThrown q (g := F0 m pc ls rest) rfl rfl rfl hout hlocks
  have hcell9 : (T.setFrames (.throwing q :: below)).heap[q]? = some ce := by
    show T.heap[q]? = some ce
    rw [hT]; exact hcell
  exact ⟨_, st1, .threw q, hrun, hend, Or.inr ⟨q, rfl, E, ce, locs, hx _ hT hW.alike, hcell9, hv, hcl, hW, hsm.mono hc hs, hf⟩⟩
theorem vx_frame {U : State} {k n : Nat} (h : s.sameButNew ({ U with vm := s.vm } : State) locs k n) : s.heap.size ≤ U.heap.size ∧ ∀ q : Nat, q < s.heap.size → (∀ z ∈ locs, z.base ≠ q) → U.heap[q]? = s.heap[q]? := by
  obtain ⟨-, h2, -, -, -, h6⟩ := h
  refine ⟨h2, fun q hq hz => ?_⟩
  obtain ⟨c9, e1, e2, e3, e4⟩ := h6 q _ (Array.getElem?_eq_getElem hq)
  have hs : c9.slots = (s.heap[q]).slots := Array.ext_getElem? fun i => e4 i fun hm => hz _ hm rfl
  have h9 : c9 = s.heap[q] := by
    rw [hs] at e2
    exact e2
  have e5 : U.heap[q]? = some c9 := e1
  rw [e5, h9, Array.getElem?_eq_getElem hq]
/-- the words of a throw but the four that speak of the heap -/
def vx_no (w : Cond) : Bool := decide (w ≠ .isRef (.static Bundle.tN "UNASSIGNED_STACK" Bundle.steD)) && decide (w ≠ .isRef (.static Bundle.tN "SUPPRESSED_SENTINEL" Bundle.listD)) && decide (w ≠ .laysStatic Bundle.tN "UNASSIGNED_STACK" Bundle.steD) && decide (w ≠ .laysStatic Bundle.tN "SUPPRESSED_SENTINEL" Bundle.listD)
def vx_at0 (own : String) (ic : Nat) (X : String) (names : List String) : List Cond := (Bundle.ownAtoms0 own ic X names).filter vx_no
def vx_atS (own : String) (ic : Nat) (X : String) (names : List String) : List Cond := (Bundle.ownAtoms own ic X names).filter vx_no
/-- a word that the tables alone decide, or a good one -/
def vx_ot (w : Cond) : Bool := w.onTables || goodWord w
theorem vx_ot_at {args a' : Array Value} {s U : State} {w : Cond} (hW : s.WarmedH U.vm) (hvm : s.vm = U.vm) (hg : vx_ot w = true) (h : w.before args s = true) : w.before a' U = true := by
  simp only [vx_ot, Bool.or_eq_true] at hg
  rcases hg with hg | hg
  · exact va_tabs hg hvm h
  · exact word_at hW (good_of_word hg) h
/-- a list's words: the good ones out of the method's own list, the others by premises of their own -/
theorem vx_hat {args : Array Value} {s : State} {L B : List Cond} (h1 : ∀ w ∈ L.filter goodWord, w.before args s = true) (h2 : ∀ w ∈ L.filter (fun w => !goodWord w), w ∈ B) (h3 : ∀ w ∈ B, w.before args s = true) : ∀ w ∈ L, w.before args s = true := by
  intro w hw
  by_cases g : goodWord w = true
  · exact h1 w (List.mem_filter.mpr ⟨hw, g⟩)
  · refine h3 w (h2 w (List.mem_filter.mpr ⟨hw, ?_⟩))
    show (!goodWord w) = true
    cases hgw : goodWord w
    · rfl
    · exact absurd hgw g
theorem vx_c {args : Array Value} {s : State} {w : Cond} {B : List Cond} (h : w.before args s = true) (t : ∀ w ∈ B, w.before args s = true) : ∀ w' ∈ w :: B, w'.before args s = true := fun w' h' => (List.mem_cons.mp h').elim (fun e => by rw [e]; exact h) (t w')
theorem vx_n {args : Array Value} {s : State} : ∀ w ∈ ([] : List Cond), w.before args s = true := fun _ h => nomatch h
theorem vx_own {args : Array Value} {s : State} {L : List Cond} (h1 : ∀ w ∈ L.filter vx_no, w.before args s = true)
    (hU : (Cond.isRef (.static Bundle.tN "UNASSIGNED_STACK" Bundle.steD)).before args s = true) (hN : (Cond.isRef (.static Bundle.tN "SUPPRESSED_SENTINEL" Bundle.listD)).before args s = true)
    (lU : (Cond.laysStatic Bundle.tN "UNASSIGNED_STACK" Bundle.steD).before args s = true) (lN : (Cond.laysStatic Bundle.tN "SUPPRESSED_SENTINEL" Bundle.listD).before args s = true) : ∀ w ∈ L, w.before args s = true := by
  intro w hw
  by_cases e1 : w = .isRef (.static Bundle.tN "UNASSIGNED_STACK" Bundle.steD)
  · rw [e1]; exact hU
  · by_cases e2 : w = .isRef (.static Bundle.tN "SUPPRESSED_SENTINEL" Bundle.listD)
    · rw [e2]; exact hN
    · by_cases e3 : w = .laysStatic Bundle.tN "UNASSIGNED_STACK" Bundle.steD
      · rw [e3]; exact lU
      · by_cases e4 : w = .laysStatic Bundle.tN "SUPPRESSED_SENTINEL" Bundle.listD
        · rw [e4]; exact lN
        · exact h1 w (List.mem_filter.mpr ⟨hw, by unfold vx_no; rw [decide_eq_true e1, decide_eq_true e2, decide_eq_true e3, decide_eq_true e4]; rfl⟩)
/-- where a static field lies, its class's statics cell in H -/
def vx_L (C n d : String) (A : Nat → Prop) (U : State) (H : Heap) : Prop := ∃ (c : ClassId) (k : Class) (i : Nat) (f : Field) (a : Nat) (cell : Cell), U.vm.findClass C = some c ∧ U.fieldFound? C n d = some (c, k, i, f) ∧ f.isStatic = true ∧ k.statics = some a ∧ H[a]? = some cell ∧ cell.vm.isStatics = true ∧ cell.cls = c ∧ f.slot < cell.slots.size ∧ k.staticTypes[f.slot]? = some f.type ∧ ¬ A a
theorem vx_L.moved {C n d : String} {A : Nat → Prop} {u U : State} {H : Heap} (hvm : u.vm.Alike U.vm) (h : vx_L C n d A u H) : vx_L C n d A U H := by
  obtain ⟨c, k, i, f, a, cell, h1, h2, h3, h4, h5, h6, h7, h8, h9, h10⟩ := h
  obtain ⟨k', hi', he⟩ := State.fieldFound?_setVm hvm h2
  exact ⟨c, k', i, f, a, cell, by rw [hvm.findClass]; exact h1, hi', h3, by rw [he]; exact h4, h5, h6, h7, h8, by rw [he]; exact h9, h10⟩
theorem vx_L.kept {C n d : String} {A : Nat → Prop} {U : State} {H H1 : Heap} (h : vx_L C n d A U H) (hq : ∀ a : Nat, a < H.size → ¬ A a → H1[a]? = H[a]?) : vx_L C n d A U H1 := by
  obtain ⟨c, k, i, f, a, cell, h1, h2, h3, h4, h5, h6, h7, h8, h9, h10⟩ := h
  exact ⟨c, k, i, f, a, cell, h1, h2, h3, h4, by rw [hq a (Array.getElem?_eq_some_iff.mp h5).1 h10]; exact h5, h6, h7, h8, h9, h10⟩
theorem vx_L.narrow {C n d : String} {A B : Nat → Prop} {U : State} {H : Heap} (h : vx_L C n d A U H) (hAB : ∀ q, B q → A q) : vx_L C n d B U H := by
  obtain ⟨c, k, i, f, a, cell, h1, h2, h3, h4, h5, h6, h7, h8, h9, h10⟩ := h
  exact ⟨c, k, i, f, a, cell, h1, h2, h3, h4, h5, h6, h7, h8, h9, fun z => h10 (hAB _ z)⟩
theorem vx_L.word {C n d : String} {A : Nat → Prop} {s : State} {args : Array Value} (h : vx_L C n d A s s.heap) : (Cond.laysStatic C n d).before args s = true := by
  obtain ⟨c, k, i, f, a, cell, h1, h2, h3, h4, h5, h6, h7, h8, h9, -⟩ := h
  show (Cond.laysStatic C n d).holds args s none s [] = true
  exact Cond.laysStatic_of h1 h2 h3 h4 h5 h6 h7 h8 h9
/-- .. and what it holds: null or some reference -/
def vx_Zq (C n d : String) (A : Nat → Prop) (U : State) (H : Heap) : Prop := va_Zq C n d A U H ∧ vx_L C n d A U H
theorem vx_Zq.moved {C n d : String} {A : Nat → Prop} {u U : State} {H : Heap} (hvm : u.vm.Alike U.vm) (h : vx_Zq C n d A u H) : vx_Zq C n d A U H := ⟨va_Zq.moved hvm h.1, vx_L.moved hvm h.2⟩
theorem vx_Zq.kept {C n d : String} {A : Nat → Prop} {U : State} {H H1 : Heap} (h : vx_Zq C n d A U H) (hq : ∀ a : Nat, a < H.size → ¬ A a → H1[a]? = H[a]?) : vx_Zq C n d A U H1 := ⟨va_Zq.kept h.1 hq, vx_L.kept h.2 hq⟩
theorem vx_Zq.narrow {C n d : String} {A B : Nat → Prop} {U : State} {H : Heap} (h : vx_Zq C n d A U H) (hAB : ∀ q, B q → A q) : vx_Zq C n d B U H := ⟨va_Zq.narrow h.1 hAB, vx_L.narrow h.2 hAB⟩
theorem vx_Zqof {args : Array Value} {s : State} {C n d : String} {A : Nat → Prop} (hl : (Cond.laysStatic C n d).before args s = true) (hini : (Cond.initialized C).before args s = true) (h : (Cond.isRef (.static C n d)).before args s = true) (hA : ∀ a : Nat, a < s.heap.size → ¬ A a) : vx_Zq C n d A s s.heap := by
  refine ⟨va_Zqof hl hini h hA, ?_⟩
  obtain ⟨c, k, i, f, a, cell, h1, h2, h3, h4, h5, h6, h7, h8, h9⟩ := Cond.laysStatic_spec hl
  exact ⟨c, k, i, f, a, cell, h1, h2, h3, h4, h5, h6, h7, h8, h9, hA a (Array.getElem?_eq_some_iff.mp h5).1⟩
theorem vx_isRef {C n d : String} {v : Value} {A : Nat → Prop} {s : State} {args : Array Value} (h : va_Z C n d v A s s.heap) (hv : v.isRef = true) : (Cond.isRef (.static C n d)).before args s = true := by
  obtain ⟨cf, kf, fi, f, a, cell, h1, h2, h3, h4, h5, h6, h7, -⟩ := h
  have he : (Term.static C n d).eval args s none [] s = some v := by
    simp [Term.eval, State.fieldNamed?, h1, h2, h4, h5, h6, h7]
  simp only [Cond.before, Cond.holds, Cond.value, he]
  cases v <;> simp_all [Value.isRef]
theorem vx_isRefq {C n d : String} {A : Nat → Prop} {s : State} {args : Array Value} (h : va_Zq C n d A s s.heap) : (Cond.isRef (.static C n d)).before args s = true := by
  rcases h with h | ⟨t, h⟩
  · exact vx_isRef h rfl
  · exact vx_isRef h rfl
/-- the same frame, seen from here: as if the method were called anew in this heap -/
theorem vx_rebase {T : State} (X : Stand p l e R s m args below meth c T locs cells slots) {R' : Room} (hf : R'.frames ≤ R.frames) (hl : R'.locals ≤ R.locals) (hc : cells + R'.cells ≤ R.cells) (hs : slots + R'.slots ≤ R.slots) :
    Stand p l e R' ((T.setVm s.vm).setFrames (.invoking m args :: below)) m args below meth c T [] 0 0 := by
  have htop : (T.setVm s.vm).topJava?.isSome := X.here.top
  have hF : ((T.setVm s.vm).setFrames (.invoking m args :: below)).frames = .invoking m args :: below := State.frames_setFrames _ (State.cur_lt_of_top htop)
  obtain ⟨g₀, hg0⟩ := Option.isSome_iff_exists.mp htop
  obtain ⟨r, hr⟩ := State.topJava?_eq_some.mp hg0
  have hl9 : e.platform.stackLimits (T.setVm s.vm).me = e.platform.stackLimits s.me := X.limits
  have hb9 : (T.setVm s.vm).me.stackBytes = s.me.stackBytes := X.bytes
  refine ⟨X.admits, X.cas, X.clock, hF, ?_, X.hears, X.method, X.code, X.here, X.tail, X.warmed, ?_, ?_, ?_⟩
  · have h := X.room
    have hU : ((T.setVm s.vm).setFrames (.invoking m args :: below)).localsInUse = s.localsInUse := by
      rw [State.localsInUse_invoking hF (meth := meth) (c := c) X.method X.code, State.localsInUse_invoking X.frames X.method X.code]
    simp only [State.hasRoom, Bool.and_eq_true, decide_eq_true_eq] at h ⊢
    obtain ⟨⟨⟨⟨h1, h2, h3, h4, h5, h6⟩, h7⟩, h8⟩, h9⟩ := h
    rw [X.frames, List.length_cons] at h2 h3
    have q1 := X.heapSize
    have q2 := X.used
    simp only [hF, hU, List.length_cons, State.stackLimits_setFrames, State.stackBytes_setFrames, hl9, hb9]
    refine ⟨⟨⟨⟨by omega, by omega, by omega, by omega, by omega, h6⟩, ?_⟩, ?_⟩, X.book⟩
    · show T.heap.size + R'.cells ≤ e.platform.maxCells
      omega
    · show T.slotsUsed + R'.slots ≤ e.platform.maxSlots
      omega
  · rw [State.stackLimits_setFrames]; rfl
  · rw [State.stackBytes_setFrames]; rfl
  · refine ⟨?_, Nat.le_refl _, Nat.le_refl _, ?_, ?_, fun a c9 h9 => ⟨c9, h9, rfl, rfl, fun _ _ => rfl⟩⟩
    · obtain ⟨t, ht, -⟩ := State.frames_cons hr
      show T.setVm s.vm = { ((T.setVm s.vm).setFrames (.invoking m args :: below)).setFrames (T.setVm s.vm).frames with heap := T.heap, slotsUsed := T.slotsUsed }
      rw [State.setFrames_setFrames, State.setFrames_self ht]
      rfl
    · show T.slotsUsed = T.slotsUsed + ((T.heap.toList.drop T.heap.size).map (·.slots.size)).sum
      rw [List.drop_eq_nil_of_le (Nat.le_of_eq Array.length_toList)]
      rfl
    · show ((T.heap.toList.drop T.heap.size).map (·.slots.size)).sum ≤ 0
      rw [List.drop_eq_nil_of_le (Nat.le_of_eq Array.length_toList)]
      exact Nat.le_refl _
/-- 'throw new E()': new; dup; invokespecial; athrow -/
theorem vx_throw0 {cc : ByteArray} {pc : Nat} (hexec : p.tables.exec = Jvm.exec) (hb : c.code = cc) (hl : l.stackTraces = false) {own cls : String} {names : List String} {ik ic mc ms : Nat} {A : Nat → Prop}
    (hown : s.vm.findClass own = some m.cls) (hcls : Bundle.fit cls = true) (hnames : ∀ n ∈ names, Bundle.fit n = true)
    (hk : (Cond.classLink own ik cls).before args s = true) (hini : (Cond.initialized cls).before args s = true) (hat : ∀ w ∈ vx_at0 own ic cls names, w.before args s = true)
    (hgood : ∀ w ∈ Cond.classLink own ik cls :: Cond.initialized cls :: vx_at0 own ic cls names, vx_ot w = true)
    (hU : vx_Zq Bundle.tN "UNASSIGNED_STACK" Bundle.steD A s s.heap) (hN : vx_Zq Bundle.tN "SUPPRESSED_SENTINEL" Bundle.listD A s s.heap) (hS : va_S A s.heap H locs) (hsize : ls.size = c.maxLocals)
    (d0 : decode cc pc = .ok (.new ik, 3)) (d3 : decode cc (pc + 3) = .ok (.dup, 1)) (d4 : decode cc (pc + 4) = .ok (.invokespecial ic, 3)) (d7 : decode cc (pc + 7) = .ok (.athrow, 1))
    (hout : ∀ x ∈ c.exceptionTable.toList, covers x (pc + 7) = false)
    (hRframes : names.length + 3 < R.frames) (hRlocals : (rest.map fun v => v.category).sum + (13 * (names.length + 1) + 42) ≤ R.locals) (hRcells : cells + 1 ≤ R.cells) (hRslots : slots + 6 ≤ R.slots) (hlocks : meth.locks = false)
    (hx : ∀ t : State, s.vm.Alike t.vm → H.size ≤ t.heap.size → (∀ q : Nat, q < H.size → t.heap[q]? = H[q]?) → XC cls s t)
    (hf : ∀ z ∈ locs, free z.base) (hc : cells + 1 ≤ mc) (hs : slots + 6 ≤ ms) :
    W p l e R s m args below meth c H locs cells slots (vx_MQ below Qc XC args s mc ms free) (F0 m pc ls rest) := by
  intro T hT X
  have htr : e.platform.stackTraces = false := (show e.platform.stackTraces = l.stackTraces by rw [X.admits.platform]).trans hl
  have Y := vx_rebase X (R' := { frames := R.frames, locals := R.locals, cells := 1, slots := 6 }) (Nat.le_refl _) (Nat.le_refl _) hRcells hRslots
  obtain ⟨s', hA⟩ : ∃ z, z = (T.setVm s.vm).setFrames (.invoking m args :: below) := ⟨_, rfl⟩
  rw [← hA] at Y
  have hvm : s'.vm = s.vm := by rw [hA]; rfl
  have hhp : s'.heap = H := by rw [hA]; exact hT
  have hW0 : s.WarmedH s'.vm := by rw [hvm]; exact State.WarmedH.refl s
  have hat' : ∀ w ∈ vx_at0 own ic cls names, w.before args s' = true := fun w hw => vx_ot_at hW0 hvm.symm (hgood w (List.mem_cons_of_mem _ (List.mem_cons_of_mem _ hw))) (hat w hw)
  have hk' : (Cond.classLink own ik cls).before args s' = true := vx_ot_at hW0 hvm.symm (hgood _ List.mem_cons_self) hk
  have hini' : (Cond.initialized cls).before args s' = true := vx_ot_at hW0 hvm.symm (hgood _ (List.mem_cons_of_mem _ List.mem_cons_self)) hini
  have hU' : vx_Zq Bundle.tN "UNASSIGNED_STACK" Bundle.steD A s' s'.heap := by rw [hhp]; exact vx_Zq.moved hW0.alike (hU.kept hS.2.1)
  have hN' : vx_Zq Bundle.tN "SUPPRESSED_SENTINEL" Bundle.listD A s' s'.heap := by rw [hhp]; exact vx_Zq.moved hW0.alike (hN.kept hS.2.1)
  have h : ∀ w ∈ Bundle.ownAtoms0 own ic cls names, w.before args s' = true := vx_own hat' (vx_isRefq hU'.1) (vx_isRefq hN'.1) hU'.2.word hN'.2.word
  have hown' : s'.vm.findClass own = some m.cls := by rw [hvm]; exact hown
  have hins : (Cond.instantiable cls 6).before args s' = true := h _ (by simp [Bundle.ownAtoms0])
  obtain ⟨vm₁, cX, kX, hfX, hkX, -, -, X₁, st1⟩ := Y.newCold hexec (own := own) (C := cls) (index := ik) (n := 6) hown' hk' hins hini'
    (g := F0 m pc ls rest) rfl (by rw [hb]; exact d0) (Nat.le_refl _) (Nat.le_refl _)
  generalize hT1 : (T.setVm vm₁).pushCell { cls := cX, slots := kX.instanceTypes.map defaultValue, vm := .none } = T1 at X₁ st1
  have hcat : (Value.ref T.heap.size).category = 1 := rfl
  have hcellA : T1.heap[T.heap.size]? = some (freshCell cX kX) := by rw [← hT1]; exact State.heap_pushCell_size _ _
  have d3' : decode c.code (pc + 3) = .ok (.dup, 1) := by rw [hb]; exact d3
  obtain ⟨U, hsteps, hrun, hend, hW, hsame, ce, hce, hO⟩ := X₁.ctorThrow0 hexec htr (own := own) (cls := cls) (names := names) (ic := ic) hown' hcls hnames h (fun x hx => nomatch hx) hfX hkX hcellA (by rw [hhp, hT]; exact Nat.le_refl _)
    (g := { method := m, pc := pc + 4, locals := ls, stack := .ref T.heap.size :: .ref T.heap.size :: rest, locked := none }) rfl hsize rfl rfl (rest := rest) rfl
    (by rw [hb]; exact d4) (by rw [hb]; exact d7) hout hRframes (by simp only [List.map_cons, List.sum_cons, hcat]; omega) hlocks
  obtain ⟨f1, f2⟩ := vx_frame hsame
  rw [hhp] at f1 f2
  have hWs : s.WarmedH U.vm := State.WarmedH.trans hW0 hW
  have hcl : s.vm.findClass cls = some ce.cls := by
    have h9 := hO.cls
    rw [hvm] at h9
    exact h9
  have hall : s.sameButNew ({ U with vm := s.vm } : State) locs mc ms := by
    subst hA
    obtain ⟨e1, e2⟩ := hsame
    rw [State.setFrames_setFrames] at e1
    have h2 : (T.setVm s.vm).sameButNew ({ U with vm := s.vm } : State) [] (0 + 1) (0 + 6) := ⟨e1, e2⟩
    have h3 := X.same.trans h2
    rw [List.append_nil] at h3
    exact h3.mono hc hs
  refine ⟨U, ?_, .threw T.heap.size, hrun, hend, Or.inr ⟨T.heap.size, rfl, cls, ce, locs, hx U hWs.alike f1 (fun q hq => f2 q hq (fun z hz => nomatch hz)), hce, hO.vm, hcl, hWs, hall, hf⟩⟩
  refine st1 _ ?_
  show Steps p.tables e below (T1.setTop { method := m, pc := pc + 3, locals := ls, stack := .ref T.heap.size :: rest, locked := none }) _
  jvm_step X₁.here [X₁.here.top, hexec, d3', Value.category]
  exact hsteps
/-- 'throw new E("text")': new; dup; ldc; invokespecial; athrow -/
theorem vx_throwS {cc : ByteArray} {pc : Nat} (hexec : p.tables.exec = Jvm.exec) (hb : c.code = cc) (hl : l.stackTraces = false) {own cls text : String} {names : List String} {ik is ic mc ms sa : Nat} {A : Nat → Prop}
    (hown : s.vm.findClass own = some m.cls) (hcls : Bundle.fit cls = true) (hnames : ∀ n ∈ names, Bundle.fit n = true)
    (hk : (Cond.classLink own ik cls).before args s = true) (hini : (Cond.initialized cls).before args s = true) (hstr : vk_R own is text sa s) (hat : ∀ w ∈ vx_atS own ic cls names, w.before args s = true)
    (hgood : ∀ w ∈ Cond.classLink own ik cls :: Cond.initialized cls :: vx_atS own ic cls names, vx_ot w = true)
    (hU : vx_Zq Bundle.tN "UNASSIGNED_STACK" Bundle.steD A s s.heap) (hN : vx_Zq Bundle.tN "SUPPRESSED_SENTINEL" Bundle.listD A s s.heap) (hS : va_S A s.heap H locs) (hsize : ls.size = c.maxLocals)
    (d0 : decode cc pc = .ok (.new ik, 3)) (d3 : decode cc (pc + 3) = .ok (.dup, 1)) (d4 : decode cc (pc + 4) = .ok (.ldc is, 2)) (d6 : decode cc (pc + 6) = .ok (.invokespecial ic, 3)) (d9 : decode cc (pc + 9) = .ok (.athrow, 1))
    (hout : ∀ x ∈ c.exceptionTable.toList, covers x (pc + 9) = false)
    (hRframes : names.length + 3 < R.frames) (hRlocals : (rest.map fun v => v.category).sum + (13 * (names.length + 1) + 43) ≤ R.locals) (hRcells : cells + 1 ≤ R.cells) (hRslots : slots + 6 ≤ R.slots) (hlocks : meth.locks = false)
    (hx : ∀ t : State, s.vm.Alike t.vm → H.size ≤ t.heap.size → (∀ q : Nat, q < H.size → t.heap[q]? = H[q]?) → XC cls s t)
    (hf : ∀ z ∈ locs, free z.base) (hc : cells + 1 ≤ mc) (hs : slots + 6 ≤ ms) :
    W p l e R s m args below meth c H locs cells slots (vx_MQ below Qc XC args s mc ms free) (F0 m pc ls rest) := by
  intro T hT X
  have htr : e.platform.stackTraces = false := (show e.platform.stackTraces = l.stackTraces by rw [X.admits.platform]).trans hl
  have Y := vx_rebase X (R' := { frames := R.frames, locals := R.locals, cells := 1, slots := 6 }) (Nat.le_refl _) (Nat.le_refl _) hRcells hRslots
  obtain ⟨s', hA⟩ : ∃ z, z = (T.setVm s.vm).setFrames (.invoking m args :: below) := ⟨_, rfl⟩
  rw [← hA] at Y
  have hvm : s'.vm = s.vm := by rw [hA]; rfl
  have hhp : s'.heap = H := by rw [hA]; exact hT
  have hW0 : s.WarmedH s'.vm := by rw [hvm]; exact State.WarmedH.refl s
  have hat' : ∀ w ∈ vx_atS own ic cls names, w.before args s' = true := fun w hw => vx_ot_at hW0 hvm.symm (hgood w (List.mem_cons_of_mem _ (List.mem_cons_of_mem _ hw))) (hat w hw)
  have hk' : (Cond.classLink own ik cls).before args s' = true := vx_ot_at hW0 hvm.symm (hgood _ List.mem_cons_self) hk
  have hini' : (Cond.initialized cls).before args s' = true := vx_ot_at hW0 hvm.symm (hgood _ (List.mem_cons_of_mem _ List.mem_cons_self)) hini
  have hU' : vx_Zq Bundle.tN "UNASSIGNED_STACK" Bundle.steD A s' s'.heap := by rw [hhp]; exact vx_Zq.moved hW0.alike (hU.kept hS.2.1)
  have hN' : vx_Zq Bundle.tN "SUPPRESSED_SENTINEL" Bundle.listD A s' s'.heap := by rw [hhp]; exact vx_Zq.moved hW0.alike (hN.kept hS.2.1)
  have h : ∀ w ∈ Bundle.ownAtoms own ic cls names, w.before args s' = true := vx_own hat' (vx_isRefq hU'.1) (vx_isRefq hN'.1) hU'.2.word hN'.2.word
  have hown' : s'.vm.findClass own = some m.cls := by rw [hvm]; exact hown
  have hins : (Cond.instantiable cls 6).before args s' = true := h _ (by simp [Bundle.ownAtoms])
  obtain ⟨vm₁, cX, kX, hfX, hkX, -, -, X₁, st1⟩ := Y.newCold hexec (own := own) (C := cls) (index := ik) (n := 6) hown' hk' hins hini'
    (g := F0 m pc ls rest) rfl (by rw [hb]; exact d0) (Nat.le_refl _) (Nat.le_refl _)
  generalize hT1 : (T.setVm vm₁).pushCell { cls := cX, slots := kX.instanceTypes.map defaultValue, vm := .none } = T1 at X₁ st1
  have hcat : (Value.ref T.heap.size).category = 1 := rfl
  have hcellA : T1.heap[T.heap.size]? = some (freshCell cX kX) := by rw [← hT1]; exact State.heap_pushCell_size _ _
  have d3' : decode c.code (pc + 3) = .ok (.dup, 1) := by rw [hb]; exact d3
  have d4' : decode c.code (pc + 4) = .ok (.ldc is, 2) := by rw [hb]; exact d4
  have hstr' : vk_R own is text sa s' := vk_R.warm hW0 hstr
  obtain ⟨U, hsteps, hrun, hend, hW, hsame, ce, hce, hO⟩ := X₁.ctorThrowS hexec htr (own := own) (cls := cls) (names := names) (ic := ic) hown' hcls hnames h (fun x hx => nomatch hx) hfX hkX hcellA (by rw [hhp, hT]; exact Nat.le_refl _) (msg := .ref sa) rfl
    (g := { method := m, pc := pc + 6, locals := ls, stack := .ref sa :: .ref T.heap.size :: .ref T.heap.size :: rest, locked := none }) rfl hsize rfl rfl (rest := rest) rfl
    (by rw [hb]; exact d6) (by rw [hb]; exact d9) hout hRframes (by simp only [List.map_cons, List.sum_cons, hcat]; omega) hlocks
  obtain ⟨f1, f2⟩ := vx_frame hsame
  rw [hhp] at f1 f2
  have hWs : s.WarmedH U.vm := State.WarmedH.trans hW0 hW
  have hcl : s.vm.findClass cls = some ce.cls := by
    have h9 := hO.cls
    rw [hvm] at h9
    exact h9
  have hall : s.sameButNew ({ U with vm := s.vm } : State) locs mc ms := by
    subst hA
    obtain ⟨e1, e2⟩ := hsame
    rw [State.setFrames_setFrames] at e1
    have h2 : (T.setVm s.vm).sameButNew ({ U with vm := s.vm } : State) [] (0 + 1) (0 + 6) := ⟨e1, e2⟩
    have h3 := X.same.trans h2
    rw [List.append_nil] at h3
    exact h3.mono hc hs
  refine ⟨U, ?_, .threw T.heap.size, hrun, hend, Or.inr ⟨T.heap.size, rfl, cls, ce, locs, hx U hWs.alike f1 (fun q hq => f2 q hq (fun z hz => nomatch hz)), hce, hO.vm, hcl, hWs, hall, hf⟩⟩
  refine st1 _ ?_
  show Steps p.tables e below (T1.setTop { method := m, pc := pc + 3, locals := ls, stack := .ref T.heap.size :: rest, locked := none }) _
  jvm_step X₁.here [X₁.here.top, hexec, d3', Value.category]
  exact X₁.ldcString hexec (own := own) (text := text) (index := is) (a := sa) hown' hstr'.1 hstr'.2
    (g := { method := m, pc := pc + 4, locals := ls, stack := .ref T.heap.size :: .ref T.heap.size :: rest, locked := none }) rfl d4' _ hsteps
/-- 'throw new E("text")', the text by a wide index -/
theorem vx_throwSW {cc : ByteArray} {pc : Nat} (hexec : p.tables.exec = Jvm.exec) (hb : c.code = cc) (hl : l.stackTraces = false) {own cls text : String} {names : List String} {ik is ic mc ms sa : Nat} {A : Nat → Prop}
    (hown : s.vm.findClass own = some m.cls) (hcls : Bundle.fit cls = true) (hnames : ∀ n ∈ names, Bundle.fit n = true)
    (hk : (Cond.classLink own ik cls).before args s = true) (hini : (Cond.initialized cls).before args s = true) (hstr : vk_R own is text sa s) (hat : ∀ w ∈ vx_atS own ic cls names, w.before args s = true)
    (hgood : ∀ w ∈ Cond.classLink own ik cls :: Cond.initialized cls :: vx_atS own ic cls names, vx_ot w = true)
    (hU : vx_Zq Bundle.tN "UNASSIGNED_STACK" Bundle.steD A s s.heap) (hN : vx_Zq Bundle.tN "SUPPRESSED_SENTINEL" Bundle.listD A s s.heap) (hS : va_S A s.heap H locs) (hsize : ls.size = c.maxLocals)
    (d0 : decode cc pc = .ok (.new ik, 3)) (d3 : decode cc (pc + 3) = .ok (.dup, 1)) (d4 : decode cc (pc + 4) = .ok (.ldc_w is, 3)) (d7 : decode cc (pc + 7) = .ok (.invokespecial ic, 3)) (d10 : decode cc (pc + 10) = .ok (.athrow, 1))
    (hout : ∀ x ∈ c.exceptionTable.toList, covers x (pc + 10) = false)
    (hRframes : names.length + 3 < R.frames) (hRlocals : (rest.map fun v => v.category).sum + (13 * (names.length + 1) + 43) ≤ R.locals) (hRcells : cells + 1 ≤ R.cells) (hRslots : slots + 6 ≤ R.slots) (hlocks : meth.locks = false)
    (hx : ∀ t : State, s.vm.Alike t.vm → H.size ≤ t.heap.size → (∀ q : Nat, q < H.size → t.heap[q]? = H[q]?) → XC cls s t)
    (hf : ∀ z ∈ locs, free z.base) (hc : cells + 1 ≤ mc) (hs : slots + 6 ≤ ms) :
    W p l e R s m args below meth c H locs cells slots (vx_MQ below Qc XC args s mc ms free) (F0 m pc ls rest) := by
  intro T hT X
  have htr : e.platform.stackTraces = false := (show e.platform.stackTraces = l.stackTraces by rw [X.admits.platform]).trans hl
  have Y := vx_rebase X (R' := { frames := R.frames, locals := R.locals, cells := 1, slots := 6 }) (Nat.le_refl _) (Nat.le_refl _) hRcells hRslots
  obtain ⟨s', hA⟩ : ∃ z, z = (T.setVm s.vm).setFrames (.invoking m args :: below) := ⟨_, rfl⟩
  rw [← hA] at Y
  have hvm : s'.vm = s.vm := by rw [hA]; rfl
  have hhp : s'.heap = H := by rw [hA]; exact hT
  have hW0 : s.WarmedH s'.vm := by rw [hvm]; exact State.WarmedH.refl s
  have hat' : ∀ w ∈ vx_atS own ic cls names, w.before args s' = true := fun w hw => vx_ot_at hW0 hvm.symm (hgood w (List.mem_cons_of_mem _ (List.mem_cons_of_mem _ hw))) (hat w hw)
  have hk' : (Cond.classLink own ik cls).before args s' = true := vx_ot_at hW0 hvm.symm (hgood _ List.mem_cons_self) hk
  have hini' : (Cond.initialized cls).before args s' = true := vx_ot_at hW0 hvm.symm (hgood _ (List.mem_cons_of_mem _ List.mem_cons_self)) hini
  have hU' : vx_Zq Bundle.tN "UNASSIGNED_STACK" Bundle.steD A s' s'.heap := by rw [hhp]; exact vx_Zq.moved hW0.alike (hU.kept hS.2.1)
  have hN' : vx_Zq Bundle.tN "SUPPRESSED_SENTINEL" Bundle.listD A s' s'.heap := by rw [hhp]; exact vx_Zq.moved hW0.alike (hN.kept hS.2.1)
  have h : ∀ w ∈ Bundle.ownAtoms own ic cls names, w.before args s' = true := vx_own hat' (vx_isRefq hU'.1) (vx_isRefq hN'.1) hU'.2.word hN'.2.word
  have hown' : s'.vm.findClass own = some m.cls := by rw [hvm]; exact hown
  have hins : (Cond.instantiable cls 6).before args s' = true := h _ (by simp [Bundle.ownAtoms])
  obtain ⟨vm₁, cX, kX, hfX, hkX, -, -, X₁, st1⟩ := Y.newCold hexec (own := own) (C := cls) (index := ik) (n := 6) hown' hk' hins hini'
    (g := F0 m pc ls rest) rfl (by rw [hb]; exact d0) (Nat.le_refl _) (Nat.le_refl _)
  generalize hT1 : (T.setVm vm₁).pushCell { cls := cX, slots := kX.instanceTypes.map defaultValue, vm := .none } = T1 at X₁ st1
  have hcat : (Value.ref T.heap.size).category = 1 := rfl
  have hcellA : T1.heap[T.heap.size]? = some (freshCell cX kX) := by rw [← hT1]; exact State.heap_pushCell_size _ _
  have d3' : decode c.code (pc + 3) = .ok (.dup, 1) := by rw [hb]; exact d3
  have d4' : decode c.code (pc + 4) = .ok (.ldc_w is, 3) := by rw [hb]; exact d4
  have hstr' : vk_R own is text sa s' := vk_R.warm hW0 hstr
  obtain ⟨U, hsteps, hrun, hend, hW, hsame, ce, hce, hO⟩ := X₁.ctorThrowS hexec htr (own := own) (cls := cls) (names := names) (ic := ic) hown' hcls hnames h (fun x hx => nomatch hx) hfX hkX hcellA (by rw [hhp, hT]; exact Nat.le_refl _) (msg := .ref sa) rfl
    (g := { method := m, pc := pc + 7, locals := ls, stack := .ref sa :: .ref T.heap.size :: .ref T.heap.size :: rest, locked := none }) rfl hsize rfl rfl (rest := rest) rfl
    (by rw [hb]; exact d7) (by rw [hb]; exact d10) hout hRframes (by simp only [List.map_cons, List.sum_cons, hcat]; omega) hlocks
  obtain ⟨f1, f2⟩ := vx_frame hsame
  rw [hhp] at f1 f2
  have hWs : s.WarmedH U.vm := State.WarmedH.trans hW0 hW
  have hcl : s.vm.findClass cls = some ce.cls := by
    have h9 := hO.cls
    rw [hvm] at h9
    exact h9
  have hall : s.sameButNew ({ U with vm := s.vm } : State) locs mc ms := by
    subst hA
    obtain ⟨e1, e2⟩ := hsame
    rw [State.setFrames_setFrames] at e1
    have h2 : (T.setVm s.vm).sameButNew ({ U with vm := s.vm } : State) [] (0 + 1) (0 + 6) := ⟨e1, e2⟩
    have h3 := X.same.trans h2
    rw [List.append_nil] at h3
    exact h3.mono hc hs
  refine ⟨U, ?_, .threw T.heap.size, hrun, hend, Or.inr ⟨T.heap.size, rfl, cls, ce, locs, hx U hWs.alike f1 (fun q hq => f2 q hq (fun z hz => nomatch hz)), hce, hO.vm, hcl, hWs, hall, hf⟩⟩
  refine st1 _ ?_
  show Steps p.tables e below (T1.setTop { method := m, pc := pc + 3, locals := ls, stack := .ref T.heap.size :: rest, locked := none }) _
  jvm_step X₁.here [X₁.here.top, hexec, d3', Value.category]
  exact X₁.ldcStringW hexec (own := own) (text := text) (index := is) (a := sa) hown' hstr'.1 hstr'.2
    (g := { method := m, pc := pc + 4, locals := ls, stack := .ref T.heap.size :: .ref T.heap.size :: rest, locked := none }) rfl d4' _ hsteps
end Ends
section Bodies
variable {l : Launch}
theorem vx_ofW {y : MethodName} {ws ws' : List Cond} {rm : Room} {Pc : Array Value → State → Prop} {Qc : Array Value → State → Outcome → State → Prop} {XC : String → State → State → Prop} {mc ms : Nat} {free : Addr → Prop} {cc : ByteArray} {maxL : Nat} {ret : Option FieldType}
    (hy : plainName y.cls = true) (hw : ws = Cond.code y cc maxL ret :: ws')
    (body : ∀ p e s m args below meth c s₁, BodyLoose p l y (headSpec ws rm) cc maxL ret e s m args below meth c s₁ → c.maxLocals = maxL → (∀ x ∈ c.exceptionTable.toList, False) → Pc args s →
      W p l e (headSpec ws rm).room s m args below meth c s.heap [] 0 0 (vx_MQ below Qc XC args s mc ms free) (entryFrame m args maxL)) : vx_Met l y ws rm Pc Qc XC mc ms free := by
  refine MetFree.of_bodyS (code := cc) (maxLocals := maxL) (ret := ret) hy ?_ ?_
  · intro args s m h hn
    obtain ⟨meth, c, h1, h2, h3, h4, h5, h6, -, -⟩ := Cond.code_spec hn (atoms_spec (ws := ws) h _ (by rw [hw]; exact List.mem_cons_self))
    exact ⟨meth, c, h1, h2, h3, h4, h5, h6⟩
  · intro p e s m args below meth c s₁ B hml hP _
    have hh0 : s₁.heap = s.heap := by rw [B.state]; rfl
    have ht : ∀ x ∈ c.exceptionTable.toList, False := by
      obtain ⟨meth9, c9, h1, h2, -, -, -, -, h7, -⟩ := Cond.code_spec B.named (atoms_spec (ws := ws) B.pre _ (by rw [hw]; exact List.mem_cons_self))
      cases Option.some.inj (h1.symm.trans B.method)
      cases Option.some.inj (h2.symm.trans (Stand.of_body B).code)
      intro x hx
      rw [Array.isEmpty_iff.mp h7] at hx
      cases hx
    obtain ⟨t, a1, o, b1, b2, b3⟩ := body p e s m args below meth c s₁ B hml ht hP s₁ hh0 (Stand.of_body B)
    exact ⟨t, o, a1, b1, b2, b3⟩
/-- the table of a body with handlers -/
theorem vx_table {p : Program} {x y : MethodName} {S : Spec} {cc bytes : ByteArray} {maxL maxL' : Nat} {ret ret' : Option FieldType} {e : Env} {s s₁ : State} {m : MethodId} {args : Array Value} {below : List Frame} {meth : Method} {c : Code} {hh : List (Nat × Nat × Nat × Nat)}
    (B : BodyLoose p l y S cc maxL ret e s m args below meth c s₁) (h : (Cond.codeWith y bytes maxL' ret' hh).before args s = true) : c.exceptionTable.toList = tableOf hh := by
  obtain ⟨m9, meth9, c9, hn9, h1, h2, -, -, h6, -⟩ := Cond.codeWith_spec h
  cases Option.some.inj (hn9.symm.trans B.named)
  cases Option.some.inj (h1.symm.trans B.method)
  cases Option.some.inj (h2.symm.trans (Stand.of_body B).code)
  rw [← h6, table_eq]
end Bodies
end VXA
/-! ===== END ===== -/
/-! ===== BEGIN a static call of a method with an exception table ===== -/
section VXS
variable {p : Program} {l : Launch} {e : Env} {R : Room} {s : State} {m : MethodId} {args : Array Value} {below : List Frame} {meth : Method} {c : Code} {T : State} {H : Heap} {locs : List Loc} {cells slots : Nat}
abbrev vx_CSW (R : Room) (s : State) (args : Array Value) (own : String) (index : Nat) (y : MethodName) (bytes : ByteArray) (maxL : Nat) (ret : Option FieldType) (hh : List (Nat × Nat × Nat × Nat)) (ws : List Cond) (rm : Room) (mc ms n : Nat) : Prop :=
  (rm.cells = mc ∧ rm.slots = ms ∧ rm.frames + 1 ≤ R.frames ∧ 8 + (maxL + 11) + rm.locals ≤ R.locals ∧ (∀ w ∈ ws, ∀ (a' : Array Value) (U : State), s.WarmedH U.vm → w.before a' U = true) ∧ Cond.codeWith y bytes maxL ret hh ∈ ws) ∧
  (Cond.codeWith y bytes maxL ret hh).before args s = true ∧ (Cond.initialized y.cls).before args s = true ∧ (y.cls ≠ "java/lang/invoke/MethodHandle" ∧ y.cls ≠ "java/lang/invoke/VarHandle") ∧
  (∀ sig, parseMethodDescriptor y.desc = some sig → n = sig.parameters.length) ∧ (Cond.methodLink own index y).before args s = true ∧ (Cond.static y).before args s = true
theorem vx_cwSW {own : String} {index maxL mc ms : Nat} {y : MethodName} {bytes : ByteArray} {ret : Option FieldType} {hh : List (Nat × Nat × Nat × Nat)} {Ts ws ws' : List Cond} {rm : Room} (n : Nat) (ht : ∀ w ∈ Ts, w.before args s = true) (hT : GoodIn Ts (va_wsS own index y ws)) (hw : ws = Cond.codeWith y bytes maxL ret hh :: ws') (hrc : rm.cells = mc) (hrs : rm.slots = ms)
    (hd : y.cls ≠ "java/lang/invoke/MethodHandle" ∧ y.cls ≠ "java/lang/invoke/VarHandle" ∧ (parseMethodDescriptor y.desc).map (fun d => d.parameters.length) = some n) (hR : rm.frames + 1 ≤ R.frames ∧ 8 + (maxL + 11) + rm.locals ≤ R.locals) :
    vx_CSW R s args own index y bytes maxL ret hh ws rm mc ms n := by
  have ok : ∀ w ∈ va_wsS own index y ws, w.before args s = true := fun w h => ht w (hT w h).1
  have hG : GoodIn Ts ws := fun w h => hT w (by unfold va_wsS; exact List.mem_append_right _ h)
  have hc : Cond.codeWith y bytes maxL ret hh ∈ ws := by rw [hw]; exact List.mem_cons_self
  refine ⟨⟨hrc, hrs, hR.1, hR.2, pay_in ht hG, hc⟩, ht _ (hG _ hc).1, ok _ (by simp [va_wsS]), ⟨hd.1, hd.2.1⟩, fun sig h => ?_, ok _ (by simp [va_wsS]), ok _ (by simp [va_wsS])⟩
  have h2 := hd.2.2
  rw [h] at h2
  exact (Option.some.inj h2).symm
theorem vx_callSW (X : Stand p l e R s m args below meth c T locs cells slots) (hexec : p.tables.exec = Jvm.exec) {own : String} {index : Nat} {y : MethodName} {bytes : ByteArray} {maxL : Nat} {ret : Option FieldType} {hh : List (Nat × Nat × Nat × Nat)}
    (hown : s.vm.findClass own = some m.cls) (hlink : (Cond.methodLink own index y).before args s = true) (hstat : (Cond.static y).before args s = true) (hinit : (Cond.initialized y.cls).before args s = true)
    (hcode : (Cond.codeWith y bytes maxL ret hh).before args s = true) (hy : y.cls ≠ "java/lang/invoke/MethodHandle" ∧ y.cls ≠ "java/lang/invoke/VarHandle")
    {W9 : Nat} {Pre : Pt → Array Value → Prop} {Post : Pt → Array Value → Option Value → Pt → Prop} (hK : Back l R p e below s args y 3 W9 Pre Post)
    {g : JFrame} (hg : g.method = m) (hsize : g.locals.size = c.maxLocals) {argsL rest : List Value} (hlen : ∀ sig, parseMethodDescriptor y.desc = some sig → argsL.length = sig.parameters.length)
    (hstack : g.stack = argsL.reverse ++ rest) (hW : 2 * g.monitorRoom + (rest.map fun v => v.category).sum ≤ W9) (hdg : decode c.code g.pc = .ok (.invokestatic index, 3))
    (hpre : ∀ vm₁, s.WarmedH vm₁ → Pre ⟨T.setVm vm₁, locs, cells, slots⟩ argsL.toArray) :
    ∃ (v : Option Value) (vm₁ : Vm) (B : Pt), s.WarmedH vm₁ ∧ Stand p l e R s m args below meth c B.U B.locs B.cells B.slots ∧ Post ⟨T.setVm vm₁, locs, cells, slots⟩ argsL.toArray v B ∧
      ∀ target, Steps p.tables e below (B.U.setTop { g with pc := g.pc + 3, stack := v.toList ++ rest }) target → Steps p.tables e below (T.setTop g) target := by
  obtain ⟨mk, methM, cM, hnamed, hmethM, -, -, -, -, -, -, hsigM⟩ := Cond.codeWith_spec hcode
  have hstatic : methM.isStatic = true := Cond.static_spec hnamed hmethM hstat
  obtain ⟨kP, hkP, -⟩ := className_of_methodNamed hnamed
  have hinitP : kP.init = .initialized := Cond.initialized_spec (findClass_of_methodNamed hnamed) hkP hinit
  obtain ⟨vm₁, X₁, hstep₁⟩ := X.invokestatic hexec hown hlink hnamed hmethM hstatic hkP hinitP hy (g := g) hg (argsL := argsL) (rest := rest) (hlen _ hsigM) hstack hdg
  obtain ⟨v, B, X', hpost, hsteps⟩ := hK m meth c ⟨T.setVm vm₁, locs, cells, slots⟩ { g with stack := rest } (.invokestatic index) mk argsL.toArray X₁ hg hsize hdg hW (X₁.named hnamed) (hpre vm₁ X₁.warmed)
  exact ⟨v, vm₁, B, X₁.warmed, X', hpost, fun target h => hstep₁ _ fun acts => by rw [doInvoke_state]; exact hsteps.trans h⟩
theorem vx_runSW {y : MethodName} {bytes cc : ByteArray} {maxL nL mc ms n index : Nat} {ret : Option FieldType} {hh : List (Nat × Nat × Nat × Nat)} {ws : List Cond} {rm : Room} {Pc : Array Value → State → Prop} {Qc : Array Value → State → Outcome → State → Prop} {free : Addr → Prop} {Ts : List Cond} {own : String} {As rest : List Value} {g : JFrame}
    (S : CallFix p m c cc nL s args Ts own) (hM : Met l y ws rm Pc Qc mc ms free) (cw : vx_CSW R s args own index y bytes maxL ret hh ws rm mc ms n) (hp : PreS s H Pc As)
    (hg : g.method = m) (hn : As.length = n) (hsize : g.locals.size = nL) (hstack : g.stack = As.reverse ++ rest) (hW : 2 * g.monitorRoom + (rest.map fun v => v.category).sum ≤ 8) (hdg : decode cc g.pc = .ok (.invokestatic index, 3)) (hf : cells + mc ≤ R.cells ∧ slots + ms ≤ R.slots) :
    va_Run p l e R s m args below meth c H locs cells slots mc ms g rest (Qc As.toArray) (free) := by
  obtain ⟨⟨hrc, hrs, hfr, hlo, hws, hcw⟩, hcode, hini, hy, hlen, hl, hstt⟩ := cw
  have hK : Back l R p e below s args y 3 8 (PreOf R mc ms Pc) (PostOf Qc mc ms free) := va_backW (hh := hh) (bytes := bytes) (maxL := maxL) (ret := ret) hM hp.1 hrc hrs hfr hlo hws hcw (fun a' U hW => word_at hW (Or.inl (by first | rfl | simp [Cond.onTables, Cond.keeps, Cond.steady])) hini)
  obtain ⟨hx, hb, hml, ho, -⟩ := S
  intro T hT X
  obtain ⟨v, vm₁, ⟨U', l2, c2, s2⟩, hW₁, X', ⟨g', mk, t, L, e1, e2, hq, h1, hL, h2, h3⟩, st⟩ := vx_callSW X hx (hh := hh) (bytes := bytes) (maxL := maxL) (ret := ret) ho hl hstt hini hcode hy hK hg (hsize.trans hml.symm) (argsL := As) (rest := rest) (fun sig h => hn.trans (hlen sig h)) hstack hW (by rw [hb]; exact hdg)
    (fun vm₁ hW₁ => ⟨hf.1, hf.2, hp.2 (T.setVm vm₁) hT hW₁⟩)
  dsimp only [Pt.U, Pt.locs, Pt.cells, Pt.slots] at X' e1 e2 h1 h2 h3 st
  subst h1; subst h2; subst h3
  exact ⟨v, (T.setVm vm₁).calling g' mk As.toArray, t, U', L, hT, X', hL, e1, e2, hq, st⟩
/-- not caught here, past rows that name other classes: it goes on to the caller -/
theorem vx_outP {p : Program} {l : Launch} {e : Env} {R : Room} {s : State} {m : MethodId} {args : Array Value} {below : List Frame} {meth : Method} {c : Code} {H : Heap} {locs : List Loc} {cells slots : Nat} {free : Addr → Prop} {ls : Array Slot} {rest : List Value} {Qc : Array Value → State → Outcome → State → Prop} {XC : String → State → State → Prop}
    {pc : Nat} {own E : String} {ce : Cell} {q : Addr} {mc ms : Nat} (hown : s.vm.findClass own = some m.cls) (hlocks : meth.locks = false)
    (hpass : ∀ z ∈ c.exceptionTable.toList, covers z pc = false ∨ (z.catchType ≠ 0 ∧ ∃ nm : String, (Cond.classLink own z.catchType nm).before args s = true ∧ va_Nc E nm s)) (hcell : H[q]? = some ce) (hv : ce.vm = .none) (hcl : s.vm.findClass E = some ce.cls)
    (hx : ∀ t : State, t.heap = H → s.vm.Alike t.vm → XC E s t) (hf : ∀ z ∈ locs, free z.base) (hc : cells ≤ mc) (hs : slots ≤ ms) :
    vx_W p l e R s m args below meth c H locs cells slots (vx_MQ below Qc XC args s mc ms free) (F0 m pc ls rest) q := by
  intro T hT X
  have hpl : e.platform.magicAccessors = ({} : Platform).magicAccessors := by rw [X.admits.platform]
  obtain ⟨vm', hW', X', st⟩ := X.outThrough hlocks q (g := F0 m pc ls rest) rfl rfl rfl (cell := ce) (by rw [hT]; exact hcell) (by rw [hv]; rfl)
    (by obtain ⟨k9, h9, -⟩ := Vm.findClass_spec hcl; exact ⟨k9, h9⟩) (fun z hz => by
      rcases hpass z hz with h | ⟨hz0, nm, hl1, hn1⟩
      · exact Or.inl h
      · obtain ⟨c6, hc6, hcl6⟩ := Cond.classLink_spec hown hl1 e.platform hpl
        obtain ⟨a8, b8, h1, h2, h3⟩ := hn1
        cases Option.some.inj (h1.symm.trans hcl)
        cases Option.some.inj (h2.symm.trans hc6)
        exact Or.inr ⟨hz0, _, hcl6, h3⟩)
  obtain ⟨g₀, hfr⟩ := X'.frames_eq
  have hcell9 : ((T.setVm vm').setFrames (.throwing q :: below)).heap[q]? = some ce := by
    show T.heap[q]? = some ce
    rw [hT]; exact hcell
  have hend : Ended ((T.setVm vm').setFrames (.throwing q :: below)) below (.threw q) := State.frames_setFrames _ (State.cur_lt_of_frames hfr)
  refine ⟨(T.setVm vm').setFrames (.throwing q :: below), ?_, .threw q, X'.here.running, hend, Or.inr ⟨q, rfl, E, ce, locs, hx _ hT (X'.ends _).1.alike, hcell9, hv, hcl, (X'.ends _).1, (X'.ends _).2.mono hc hs, hf⟩⟩
  rw [X.pushThrowing_eq]
  exact st
/-- a thing of a world lies in the heap -/
theorem vx_lt {D : va_G} {cl : List vw_C} {ws : va_W} {H1 : Heap} (h : va_P D cl ws H1) {k : Nat} {q : Nat × va_E} (hk : ws[k]? = some q) : q.1 < H1.size := (h k q hk).lt
end VXS
/-! ===== END ===== -/
/-! ===== BEGIN methods with a table of their own: called by a name, returning or throwing ===== -/
section VXH
/-! vx_backW, vx_callVX, vx_callSX, vx_callVW, vx_runVW, vx_runVX, vx_runSX, vx_ofWH follow the same proofs as their sisters above (Free/Laws.lean, Shelf42/LK1.lean); vx_outP calls Shelf42/NT130.lean (outThrough). -/
section
variable {l : Launch} {R : Room} {p : Program} {e : Env} {below : List Frame} {s : State} {sargs : Array Value} {y : MethodName} {len W9 : Nat}
theorem vx_backW {ws : List Cond} {rm : Room} {Pc : Array Value → State → Prop} {Qc : Array Value → State → Outcome → State → Prop} {XC : String → State → State → Prop} {mc ms : Nat} {free : Addr → Prop} {bytes : ByteArray} {maxL : Nat} {ret : Option FieldType} {hh : List (Nat × Nat × Nat × Nat)}
    (hM : vx_Met l y ws rm Pc Qc XC mc ms free) (hblind : FrameBlind Pc) (hrc : rm.cells = mc) (hrs : rm.slots = ms)
    (hframes : rm.frames + 1 ≤ R.frames) (hlocals : W9 + (maxL + 11) + rm.locals ≤ R.locals)
    (hws : ∀ w ∈ ws, ∀ a' U, s.WarmedH U.vm → w.before a' U = true) (hcode : Cond.codeWith y bytes maxL ret hh ∈ ws) (hinit : ∀ a' U, s.WarmedH U.vm → (Cond.initialized y.cls).before a' U = true) :
    vx_Back l R p e below s sargs y len W9 (PreOf R mc ms Pc) (PostOf Qc mc ms free) (vx_Post XC mc ms free) := by
  intro m meth c A g ig mk a X hg hsize hdg hW hn hp
  have h1 : (headSpec ws rm).pre.before a A.U = true := atoms_intro fun w hw => hws w hw _ _ X.warmed
  have h2 : (Cond.codeWith y bytes maxL ret hh).before a A.U = true := hws _ hcode _ _ X.warmed
  have h3 : (Cond.initialized y.cls).before a A.U = true := hinit _ _ X.warmed
  have h4 : A.cells + (headSpec ws rm).room.cells ≤ R.cells := by rw [show (headSpec ws rm).room.cells = mc from hrc]; exact hp.1
  have h5 : A.slots + (headSpec ws rm).room.slots ≤ R.slots := by rw [show (headSpec ws rm).room.slots = ms from hrs]; exact hp.2.1
  have hPc : Pc a (A.U.calling g mk a) := hblind _ _ _ _ hp.2.2
  obtain ⟨U, Ls, c0, s0⟩ := A
  dsimp only [Pt.U, Pt.locs, Pt.cells, Pt.slots] at h1 h2 h3 h4 h5 X hn hPc ⊢
  obtain ⟨m9, methY, cY, hn9, hmY, hcY, -, hlY, -⟩ := Cond.codeWith_spec h2
  cases Option.some.inj (hn9.symm.trans hn)
  obtain ⟨kY, hkY, -⟩ := className_of_methodNamed hn
  have hinitY : kY.init = .initialized := Cond.initialized_spec (findClass_of_methodNamed hn) hkY h3
  have h : At U g.method c below := by rw [hg]; exact X.here
  have hlocals9 : W9 + (maxL + 11) + (headSpec ws rm).room.locals ≤ R.locals := hlocals
  have happ : (headSpec ws rm).appliesLoose y e.platform (U.calling g mk a) = true :=
    Spec.appliesLoose_calling (g := g) h hdg hn hkY hinitY
      (X.room_calling (g := g) (R' := (headSpec ws rm).room) hsize hmY hcY hframes (by rw [hlY]; omega) h4 h5) h1
  obtain ⟨mid, hmid⟩ := h.above
  have hfr : (U.setTop g).frames = (.java g :: mid) ++ below := by rw [State.frames_setTop' g h.top, hmid]; rfl
  obtain ⟨o, s₂, hsteps, -, hend, hq⟩ := Steps.callFree hM p X.admits X.cas X.clock (acts := []) hfr happ hPc trivial
  have hq' : vx_Q Qc XC mc ms free a (U.calling g mk a) o s₂ := hq
  rw [State.frames_setTop' g h.top] at hend
  obtain ⟨g₀, hg0⟩ := Option.isSome_iff_exists.mp h.top
  obtain ⟨r, hr⟩ := State.topJava?_eq_some.mp hg0
  have hr' : (({ U with heap := s₂.heap, slotsUsed := s₂.slotsUsed } : State).setVm s₂.vm).frames = .java g₀ :: r := hr
  rcases hq' with ⟨hqc, L, hfe, hL⟩ | ⟨q, rfl, E, ce, L, hx, hce, hcv, hcl, hW₂, hsm, hL⟩
  · obtain ⟨⟨v, rfl⟩, hW₂, e2, q2, q3, q4, q5, q6⟩ := id hfe
    have e3 : s₂ = ({ (U.calling g mk a).setFrames s₂.frames with heap := s₂.heap, slotsUsed := s₂.slotsUsed } : State).setVm s₂.vm := by
      have : s₂ = ({ s₂ with vm := (U.calling g mk a).vm } : State).setVm s₂.vm := rfl
      rw [e2] at this
      exact this
    obtain ⟨c₂, i₂, len₂, hc₂, hd₂, hf₂⟩ := hend
    have hW' : U.WarmedH s₂.vm := hW₂
    have hcc : c₂ = c := by
      have h1 : s₂.code? g.method = U.code? g.method := by
        rw [State.code?_eq, State.code?_eq, hW'.alike.method?]
      exact Option.some.inj (hc₂.symm.trans (h1.trans h.code))
    subst hcc
    have hlen : len₂ = len := by rw [hdg] at hd₂; cases hd₂; rfl
    subst hlen
    have hs₂ : s₂ = (({ U with heap := s₂.heap, slotsUsed := s₂.slotsUsed } : State).setVm s₂.vm).setTop { g with pc := g.pc + len₂, stack := v.toList ++ g.stack } := by
      refine e3.trans ?_
      rw [hf₂, State.calling_eq h.top, State.setFrames_setFrames, State.setTop_of_frames _ hr', hr]
      rfl
    have hsame : U.sameButNew ({ U with heap := s₂.heap, slotsUsed := s₂.slotsUsed } : State) L mc ms := by
      refine ⟨?_, q2, q3, q4, q5, q6⟩
      obtain ⟨t, ht, -⟩ := State.frames_cons hr
      show ({ U with heap := s₂.heap, slotsUsed := s₂.slotsUsed } : State) = { U.setFrames U.frames with heap := s₂.heap, slotsUsed := s₂.slotsUsed }
      rw [State.setFrames_self ht]
    subst hg
    refine Or.inl ⟨v, ⟨(({ U with heap := s₂.heap, slotsUsed := s₂.slotsUsed } : State).setVm s₂.vm), Ls ++ L, c0 + mc, s0 + ms⟩,
      ⟨X.admits, X.cas, X.clock, X.frames, X.room, X.hears, X.method, X.code, (X.here.setHeapUsed s₂.heap s₂.slotsUsed).setVm hW'.alike, X.tail, State.WarmedH.trans X.warmed hW', X.limits, X.bytes, X.same.trans (hsame.setVm s.vm)⟩,
      ⟨g, mk, s₂, L, rfl, rfl, hqc, rfl, hL, rfl, rfl⟩, ?_⟩
    show Steps p.tables e below _ ((({ U with heap := s₂.heap, slotsUsed := s₂.slotsUsed } : State).setVm s₂.vm).setTop { g with pc := g.pc + len₂, stack := v.toList ++ g.stack })
    rw [← hs₂]
    exact hsteps
  · obtain ⟨e2, q2, q3, q4, q5, q6⟩ := id hsm
    have e3 : s₂ = ({ (U.calling g mk a).setFrames s₂.frames with heap := s₂.heap, slotsUsed := s₂.slotsUsed } : State).setVm s₂.vm := by
      have : s₂ = ({ s₂ with vm := (U.calling g mk a).vm } : State).setVm s₂.vm := rfl
      rw [e2] at this
      exact this
    have hf₂ : s₂.frames = .throwing q :: .java g :: U.frames.tail := hend
    have hW' : U.WarmedH s₂.vm := hW₂
    have hs₂ : s₂ = ((({ U with heap := s₂.heap, slotsUsed := s₂.slotsUsed } : State).setVm s₂.vm).setTop g).pushFrame (.throwing q) := by
      refine e3.trans ?_
      rw [hf₂, State.calling_eq h.top, State.setFrames_setFrames, State.pushFrame, State.frames_setTop _ hr', State.setTop_of_frames _ hr', State.setFrames_setFrames, hr]
      rfl
    have hsame : U.sameButNew ({ U with heap := s₂.heap, slotsUsed := s₂.slotsUsed } : State) L mc ms := by
      refine ⟨?_, q2, q3, q4, q5, q6⟩
      obtain ⟨t, ht, -⟩ := State.frames_cons hr
      show ({ U with heap := s₂.heap, slotsUsed := s₂.slotsUsed } : State) = { U.setFrames U.frames with heap := s₂.heap, slotsUsed := s₂.slotsUsed }
      rw [State.setFrames_self ht]
    subst hg
    refine Or.inr ⟨q, ⟨(({ U with heap := s₂.heap, slotsUsed := s₂.slotsUsed } : State).setVm s₂.vm), Ls ++ L, c0 + mc, s0 + ms⟩,
      ⟨X.admits, X.cas, X.clock, X.frames, X.room, X.hears, X.method, X.code, (X.here.setHeapUsed s₂.heap s₂.slotsUsed).setVm hW'.alike, X.tail, State.WarmedH.trans X.warmed hW', X.limits, X.bytes, X.same.trans (hsame.setVm s.vm)⟩,
      ⟨g, mk, s₂, L, E, ce, rfl, rfl, hx, hce, hcv, hcl, rfl, hL, rfl, rfl⟩, ?_⟩
    show Steps p.tables e below _ (((({ U with heap := s₂.heap, slotsUsed := s₂.slotsUsed } : State).setVm s₂.vm).setTop g).pushFrame (.throwing q))
    rw [← hs₂]
    exact hsteps
end
variable {p : Program} {l : Launch} {e : Env} {R : Room} {s : State} {m : MethodId} {args : Array Value} {below : List Frame} {meth : Method} {c : Code} {T : State} {H : Heap} {locs : List Loc} {cells slots : Nat}
theorem vx_callVX (X : Stand p l e R s m args below meth c T locs cells slots) (hexec : p.tables.exec = Jvm.exec) {own C : String} {index : Nat} {y : MethodName} {bytes : ByteArray} {maxL : Nat} {ret : Option FieldType} {hh : List (Nat × Nat × Nat × Nat)}
    (hown : s.vm.findClass own = some m.cls) (hlink : (Cond.methodLink own index y).before args s = true) (hinst : (Cond.instanceMethod y).before args s = true) (hsel : (Cond.selects C y y).before args s = true)
    (hcode : (Cond.codeWith y bytes maxL ret hh).before args s = true) (hy : y.cls ≠ "java/lang/invoke/MethodHandle" ∧ y.cls ≠ "java/lang/invoke/VarHandle")
    {W9 : Nat} {Pre : Pt → Array Value → Prop} {Post : Pt → Array Value → Option Value → Pt → Prop} {PostX : Pt → Array Value → Addr → Pt → Prop} (hK : vx_Back l R p e below s args y 3 W9 Pre Post PostX)
    {b : Addr} {cellB : Cell} (hcell : T.heap[b]? = some cellB) (hobj : cellB.vm.isStatics = false) (hcls : s.vm.findClass C = some cellB.cls)
    {g : JFrame} (hg : g.method = m) (hsize : g.locals.size = c.maxLocals) {argsL rest : List Value} (hlen : ∀ sig, parseMethodDescriptor y.desc = some sig → argsL.length = sig.parameters.length)
    (hstack : g.stack = argsL.reverse ++ .ref b :: rest) (hW : 2 * g.monitorRoom + (rest.map fun v => v.category).sum ≤ W9) (hdg : decode c.code g.pc = .ok (.invokevirtual index, 3))
    (hpre : ∀ vm₁, s.WarmedH vm₁ → Pre ⟨T.setVm vm₁, locs, cells, slots⟩ (Value.ref b :: argsL).toArray) :
    (∃ (v : Option Value) (vm₁ : Vm) (B : Pt), s.WarmedH vm₁ ∧ Stand p l e R s m args below meth c B.U B.locs B.cells B.slots ∧ Post ⟨T.setVm vm₁, locs, cells, slots⟩ (Value.ref b :: argsL).toArray v B ∧
      ∀ target, Steps p.tables e below (B.U.setTop { g with pc := g.pc + 3, stack := v.toList ++ rest }) target → Steps p.tables e below (T.setTop g) target) ∨
    (∃ (q : Addr) (vm₁ : Vm) (B : Pt), s.WarmedH vm₁ ∧ Stand p l e R s m args below meth c B.U B.locs B.cells B.slots ∧ PostX ⟨T.setVm vm₁, locs, cells, slots⟩ (Value.ref b :: argsL).toArray q B ∧
      Steps p.tables e below (T.setTop g) ((B.U.setTop { g with stack := rest }).pushFrame (.throwing q))) := by
  obtain ⟨mk, methM, hnamed, hmethM, hstM, habM⟩ := Cond.instanceMethod_spec hinst
  obtain ⟨m8, methM', cM, hn8, hmethM', -, -, -, -, -, -, hsigM⟩ := Cond.codeWith_spec hcode
  cases Option.some.inj (hn8.symm.trans hnamed)
  cases hmethM.symm.trans hmethM'
  obtain ⟨c2, r2, m2, q1, q2, q3, q4, kP, hkP, hkPi⟩ := Cond.selects_spec hsel
  cases hcls.symm.trans q1
  cases (State.methodFound?_of_named hnamed hy).symm.trans q2
  cases hnamed.symm.trans q3
  have hselP : selectMethod e.platform s.vm cellB.cls mk = .method mk := by rw [Launch.admits_selectMethod X.admits]; exact q4
  obtain ⟨vm₁, X₁, hstep₁⟩ := X.invokevirtual hexec hown hlink hnamed hmethM hstM hkP hkPi hy (a := b) (cell := cellB) hcell
    (fun z h => by rw [h] at hobj; cases hobj) hselP hmethM habM hkP hkPi (g := g) hg (argsL := argsL) (rest := rest) (hlen _ hsigM) hstack hdg
  rcases hK m meth c ⟨T.setVm vm₁, locs, cells, slots⟩ { g with stack := rest } (.invokevirtual index) mk (Value.ref b :: argsL).toArray X₁ hg hsize hdg hW (X₁.named hnamed) (hpre vm₁ X₁.warmed) with ⟨v, B, X', hpost, hsteps⟩ | ⟨q, B, X', hpost, hsteps⟩
  · exact Or.inl ⟨v, vm₁, B, X₁.warmed, X', hpost, fun target h => hstep₁ _ fun acts => by rw [doInvoke_state]; exact hsteps.trans h⟩
  · exact Or.inr ⟨q, vm₁, B, X₁.warmed, X', hpost, hstep₁ _ fun acts => by rw [doInvoke_state]; exact hsteps⟩
theorem vx_callSX (X : Stand p l e R s m args below meth c T locs cells slots) (hexec : p.tables.exec = Jvm.exec) {own : String} {index : Nat} {y : MethodName} {bytes : ByteArray} {maxL : Nat} {ret : Option FieldType} {hh : List (Nat × Nat × Nat × Nat)}
    (hown : s.vm.findClass own = some m.cls) (hlink : (Cond.methodLink own index y).before args s = true) (hstat : (Cond.static y).before args s = true) (hinit : (Cond.initialized y.cls).before args s = true)
    (hcode : (Cond.codeWith y bytes maxL ret hh).before args s = true) (hy : y.cls ≠ "java/lang/invoke/MethodHandle" ∧ y.cls ≠ "java/lang/invoke/VarHandle")
    {W9 : Nat} {Pre : Pt → Array Value → Prop} {Post : Pt → Array Value → Option Value → Pt → Prop} {PostX : Pt → Array Value → Addr → Pt → Prop} (hK : vx_Back l R p e below s args y 3 W9 Pre Post PostX)
    {g : JFrame} (hg : g.method = m) (hsize : g.locals.size = c.maxLocals) {argsL rest : List Value} (hlen : ∀ sig, parseMethodDescriptor y.desc = some sig → argsL.length = sig.parameters.length)
    (hstack : g.stack = argsL.reverse ++ rest) (hW : 2 * g.monitorRoom + (rest.map fun v => v.category).sum ≤ W9) (hdg : decode c.code g.pc = .ok (.invokestatic index, 3))
    (hpre : ∀ vm₁, s.WarmedH vm₁ → Pre ⟨T.setVm vm₁, locs, cells, slots⟩ argsL.toArray) :
    (∃ (v : Option Value) (vm₁ : Vm) (B : Pt), s.WarmedH vm₁ ∧ Stand p l e R s m args below meth c B.U B.locs B.cells B.slots ∧ Post ⟨T.setVm vm₁, locs, cells, slots⟩ argsL.toArray v B ∧
      ∀ target, Steps p.tables e below (B.U.setTop { g with pc := g.pc + 3, stack := v.toList ++ rest }) target → Steps p.tables e below (T.setTop g) target) ∨
    (∃ (q : Addr) (vm₁ : Vm) (B : Pt), s.WarmedH vm₁ ∧ Stand p l e R s m args below meth c B.U B.locs B.cells B.slots ∧ PostX ⟨T.setVm vm₁, locs, cells, slots⟩ argsL.toArray q B ∧
      Steps p.tables e below (T.setTop g) ((B.U.setTop { g with stack := rest }).pushFrame (.throwing q))) := by
  obtain ⟨mk, methM, cM, hnamed, hmethM, -, -, -, -, -, -, hsigM⟩ := Cond.codeWith_spec hcode
  have hstatic : methM.isStatic = true := Cond.static_spec hnamed hmethM hstat
  obtain ⟨kP, hkP, -⟩ := className_of_methodNamed hnamed
  have hinitP : kP.init = .initialized := Cond.initialized_spec (findClass_of_methodNamed hnamed) hkP hinit
  obtain ⟨vm₁, X₁, hstep₁⟩ := X.invokestatic hexec hown hlink hnamed hmethM hstatic hkP hinitP hy (g := g) hg (argsL := argsL) (rest := rest) (hlen _ hsigM) hstack hdg
  rcases hK m meth c ⟨T.setVm vm₁, locs, cells, slots⟩ { g with stack := rest } (.invokestatic index) mk argsL.toArray X₁ hg hsize hdg hW (X₁.named hnamed) (hpre vm₁ X₁.warmed) with ⟨v, B, X', hpost, hsteps⟩ | ⟨q, B, X', hpost, hsteps⟩
  · exact Or.inl ⟨v, vm₁, B, X₁.warmed, X', hpost, fun target h => hstep₁ _ fun acts => by rw [doInvoke_state]; exact hsteps.trans h⟩
  · exact Or.inr ⟨q, vm₁, B, X₁.warmed, X', hpost, hstep₁ _ fun acts => by rw [doInvoke_state]; exact hsteps⟩
theorem vx_callVW (X : Stand p l e R s m args below meth c T locs cells slots) (hexec : p.tables.exec = Jvm.exec) {own C : String} {index : Nat} {y : MethodName} {bytes : ByteArray} {maxL : Nat} {ret : Option FieldType} {hh : List (Nat × Nat × Nat × Nat)}
    (hown : s.vm.findClass own = some m.cls) (hlink : (Cond.methodLink own index y).before args s = true) (hinst : (Cond.instanceMethod y).before args s = true) (hsel : (Cond.selects C y y).before args s = true)
    (hcode : (Cond.codeWith y bytes maxL ret hh).before args s = true) (hy : y.cls ≠ "java/lang/invoke/MethodHandle" ∧ y.cls ≠ "java/lang/invoke/VarHandle")
    {W9 : Nat} {Pre : Pt → Array Value → Prop} {Post : Pt → Array Value → Option Value → Pt → Prop} (hK : Back l R p e below s args y 3 W9 Pre Post)
    {b : Addr} {cellB : Cell} (hcell : T.heap[b]? = some cellB) (hobj : cellB.vm.isStatics = false) (hcls : s.vm.findClass C = some cellB.cls)
    {g : JFrame} (hg : g.method = m) (hsize : g.locals.size = c.maxLocals) {argsL rest : List Value} (hlen : ∀ sig, parseMethodDescriptor y.desc = some sig → argsL.length = sig.parameters.length)
    (hstack : g.stack = argsL.reverse ++ .ref b :: rest) (hW : 2 * g.monitorRoom + (rest.map fun v => v.category).sum ≤ W9) (hdg : decode c.code g.pc = .ok (.invokevirtual index, 3))
    (hpre : ∀ vm₁, s.WarmedH vm₁ → Pre ⟨T.setVm vm₁, locs, cells, slots⟩ (Value.ref b :: argsL).toArray) :
    ∃ (v : Option Value) (vm₁ : Vm) (B : Pt), s.WarmedH vm₁ ∧ Stand p l e R s m args below meth c B.U B.locs B.cells B.slots ∧ Post ⟨T.setVm vm₁, locs, cells, slots⟩ (Value.ref b :: argsL).toArray v B ∧
      ∀ target, Steps p.tables e below (B.U.setTop { g with pc := g.pc + 3, stack := v.toList ++ rest }) target → Steps p.tables e below (T.setTop g) target := by
  obtain ⟨mk, methM, hnamed, hmethM, hstM, habM⟩ := Cond.instanceMethod_spec hinst
  obtain ⟨m8, methM', cM, hn8, hmethM', -, -, -, -, -, -, hsigM⟩ := Cond.codeWith_spec hcode
  cases Option.some.inj (hn8.symm.trans hnamed)
  cases hmethM.symm.trans hmethM'
  obtain ⟨c2, r2, m2, q1, q2, q3, q4, kP, hkP, hkPi⟩ := Cond.selects_spec hsel
  cases hcls.symm.trans q1
  cases (State.methodFound?_of_named hnamed hy).symm.trans q2
  cases hnamed.symm.trans q3
  have hselP : selectMethod e.platform s.vm cellB.cls mk = .method mk := by rw [Launch.admits_selectMethod X.admits]; exact q4
  obtain ⟨vm₁, X₁, hstep₁⟩ := X.invokevirtual hexec hown hlink hnamed hmethM hstM hkP hkPi hy (a := b) (cell := cellB) hcell
    (fun z h => by rw [h] at hobj; cases hobj) hselP hmethM habM hkP hkPi (g := g) hg (argsL := argsL) (rest := rest) (hlen _ hsigM) hstack hdg
  obtain ⟨v, B, X', hpost, hsteps⟩ := hK m meth c ⟨T.setVm vm₁, locs, cells, slots⟩ { g with stack := rest } (.invokevirtual index) mk (Value.ref b :: argsL).toArray X₁ hg hsize hdg hW (X₁.named hnamed) (hpre vm₁ X₁.warmed)
  exact ⟨v, vm₁, B, X₁.warmed, X', hpost, fun target h => hstep₁ _ fun acts => by rw [doInvoke_state]; exact hsteps.trans h⟩
abbrev vx_CVW (R : Room) (s : State) (args : Array Value) (own C : String) (index : Nat) (y : MethodName) (bytes : ByteArray) (maxL : Nat) (ret : Option FieldType) (hh : List (Nat × Nat × Nat × Nat)) (ws : List Cond) (rm : Room) (mc ms n : Nat) : Prop :=
  (rm.cells = mc ∧ rm.slots = ms ∧ rm.frames + 1 ≤ R.frames ∧ 8 + (maxL + 11) + rm.locals ≤ R.locals ∧ (∀ w ∈ ws, ∀ (a' : Array Value) (U : State), s.WarmedH U.vm → w.before a' U = true) ∧ Cond.codeWith y bytes maxL ret hh ∈ ws) ∧
  (Cond.codeWith y bytes maxL ret hh).before args s = true ∧ (Cond.initialized y.cls).before args s = true ∧ (y.cls ≠ "java/lang/invoke/MethodHandle" ∧ y.cls ≠ "java/lang/invoke/VarHandle") ∧
  (∀ sig, parseMethodDescriptor y.desc = some sig → n = sig.parameters.length) ∧ (Cond.methodLink own index y).before args s = true ∧ (Cond.instanceMethod y).before args s = true ∧ (Cond.selects C y y).before args s = true
theorem vx_cwVW {own C : String} {index maxL mc ms : Nat} {y : MethodName} {bytes : ByteArray} {ret : Option FieldType} {hh : List (Nat × Nat × Nat × Nat)} {Ts ws ws' : List Cond} {rm : Room} (n : Nat) (ht : ∀ w ∈ Ts, w.before args s = true) (hT : GoodIn Ts (wsV own index C y ws)) (hw : ws = Cond.codeWith y bytes maxL ret hh :: ws') (hrc : rm.cells = mc) (hrs : rm.slots = ms)
    (hd : y.cls = C ∧ y.cls ≠ "java/lang/invoke/MethodHandle" ∧ y.cls ≠ "java/lang/invoke/VarHandle" ∧ (parseMethodDescriptor y.desc).map (fun d => d.parameters.length) = some n) (hR : rm.frames + 1 ≤ R.frames ∧ 8 + (maxL + 11) + rm.locals ≤ R.locals) :
    vx_CVW R s args own C index y bytes maxL ret hh ws rm mc ms n := by
  obtain ⟨hC, hd⟩ := hd
  subst hC
  have ok : ∀ w ∈ wsV own index y.cls y ws, w.before args s = true := fun w h => ht w (hT w h).1
  have hG : GoodIn Ts ws := fun w h => hT w (by unfold wsV; exact List.mem_append_right _ h)
  have hc : Cond.codeWith y bytes maxL ret hh ∈ ws := by rw [hw]; exact List.mem_cons_self
  refine ⟨⟨hrc, hrs, hR.1, hR.2, pay_in ht hG, hc⟩, ht _ (hG _ hc).1, ok _ (by simp [wsV]), ⟨hd.1, hd.2.1⟩, fun sig h => ?_, ok _ (by simp [wsV]), ok _ (by simp [wsV]), ok _ (by simp [wsV])⟩
  have h2 := hd.2.2
  rw [h] at h2
  exact (Option.some.inj h2).symm
theorem vx_runVW {y : MethodName} {bytes cc : ByteArray} {maxL nL mc ms n index : Nat} {ret : Option FieldType} {hh : List (Nat × Nat × Nat × Nat)} {ws : List Cond} {rm : Room} {Pc : Array Value → State → Prop} {Qc : Array Value → State → Outcome → State → Prop} {free : Addr → Prop} {Ts : List Cond} {own C : String} {b : Addr} {As rest : List Value} {g : JFrame}
    (S : CallFix p m c cc nL s args Ts own) (hM : Met l y ws rm Pc Qc mc ms free) (cw : vx_CVW R s args own C index y bytes maxL ret hh ws rm mc ms n) (hp : PreV s H C b Pc As)
    (hg : g.method = m) (hn : As.length = n) (hsize : g.locals.size = nL) (hstack : g.stack = As.reverse ++ .ref b :: rest) (hW : 2 * g.monitorRoom + (rest.map fun v => v.category).sum ≤ 8) (hdg : decode cc g.pc = .ok (.invokevirtual index, 3)) (hf : cells + mc ≤ R.cells ∧ slots + ms ≤ R.slots) :
    va_Run p l e R s m args below meth c H locs cells slots mc ms g rest (Qc (Value.ref b :: As).toArray) free := by
  obtain ⟨⟨hrc, hrs, hfr, hlo, hws, hcw⟩, hcode, hini, hy, hlen, hl, hin, hse⟩ := cw
  have hK : Back l R p e below s args y 3 8 (PreOf R mc ms Pc) (PostOf Qc mc ms free) := va_backW (hh := hh) (bytes := bytes) (maxL := maxL) (ret := ret) hM hp.1 hrc hrs hfr hlo hws hcw (fun a' U hW => word_at hW (Or.inl (by first | rfl | simp [Cond.onTables, Cond.keeps, Cond.steady])) hini)
  obtain ⟨hx, hb, hml, ho, -⟩ := S
  obtain ⟨-, ⟨cellB, hcB, hoB, hclB⟩, hPc⟩ := hp
  intro T hT X
  obtain ⟨v, vm₁, ⟨U', l2, c2, s2⟩, hW₁, X', ⟨g', mk, t, L, e1, e2, hq, h1, hL, h2, h3⟩, st⟩ := vx_callVW X hx (C := C) (hh := hh) (bytes := bytes) (maxL := maxL) (ret := ret) ho hl hin hse hcode hy hK (by rw [hT]; exact hcB) hoB hclB hg (hsize.trans hml.symm) (argsL := As) (rest := rest) (fun sig h => hn.trans (hlen sig h)) hstack hW (by rw [hb]; exact hdg)
    (fun vm₁ hW₁ => ⟨hf.1, hf.2, hPc (T.setVm vm₁) hT hW₁⟩)
  dsimp only [Pt.U, Pt.locs, Pt.cells, Pt.slots] at X' e1 e2 h1 h2 h3 st
  subst h1; subst h2; subst h3
  exact ⟨v, (T.setVm vm₁).calling g' mk (Value.ref b :: As).toArray, t, U', L, hT, X', hL, e1, e2, hq, st⟩
section
variable {y : MethodName} {bytes cc : ByteArray} {maxL nL mc ms n index : Nat} {ret : Option FieldType} {ws : List Cond} {rm : Room} {Pc : Array Value → State → Prop} {Qc : Array Value → State → Outcome → State → Prop} {XC : String → State → State → Prop} {free : Addr → Prop} {Ts : List Cond} {own C : String} {b : Addr} {As rest : List Value} {g : JFrame}
theorem vx_runVX {hh : List (Nat × Nat × Nat × Nat)} (S : CallFix p m c cc nL s args Ts own) (hM : vx_Met l y ws rm Pc Qc XC mc ms free) (cw : vx_CVW R s args own C index y bytes maxL ret hh ws rm mc ms n) (hp : PreV s H C b Pc As)
    (hg : g.method = m) (hn : As.length = n) (hsize : g.locals.size = nL) (hstack : g.stack = As.reverse ++ .ref b :: rest) (hW : 2 * g.monitorRoom + (rest.map fun v => v.category).sum ≤ 8) (hdg : decode cc g.pc = .ok (.invokevirtual index, 3)) (hf : cells + mc ≤ R.cells ∧ slots + ms ≤ R.slots) :
    vx_Run p l e R s m args below meth c H locs cells slots mc ms g rest (Qc (Value.ref b :: As).toArray) XC free := by
  obtain ⟨⟨hrc, hrs, hfr, hlo, hws, hcw⟩, hcode, hini, hy, hlen, hl, hin, hse⟩ := cw
  have hK : vx_Back l R p e below s args y 3 8 (PreOf R mc ms Pc) (PostOf Qc mc ms free) (vx_Post XC mc ms free) := vx_backW (hh := hh) (bytes := bytes) (maxL := maxL) (ret := ret) hM hp.1 hrc hrs hfr hlo hws hcw (fun a' U hW => word_at hW (Or.inl (by first | rfl | simp [Cond.onTables, Cond.keeps, Cond.steady])) hini)
  obtain ⟨hx, hb, hml, ho, -⟩ := S
  obtain ⟨-, ⟨cellB, hcB, hoB, hclB⟩, hPc⟩ := hp
  intro T hT X
  rcases vx_callVX X hx (C := C) (hh := hh) (bytes := bytes) (maxL := maxL) (ret := ret) ho hl hin hse hcode hy hK (by rw [hT]; exact hcB) hoB hclB hg (hsize.trans hml.symm) (argsL := As) (rest := rest) (fun sig h => hn.trans (hlen sig h)) hstack hW (by rw [hb]; exact hdg)
    (fun vm₁ hW₁ => ⟨hf.1, hf.2, hPc (T.setVm vm₁) hT hW₁⟩) with ⟨v, vm₁, ⟨U', l2, c2, s2⟩, hW₁, X', ⟨g', mk, t, L, e1, e2, hq, h1, hL, h2, h3⟩, st⟩ | ⟨q, vm₁, ⟨U', l2, c2, s2⟩, hW₁, X', ⟨g', mk, t, L, E, ce, e1, e2, hq, hce, hcv, hcl, h1, hL, h2, h3⟩, st⟩
  · dsimp only [Pt.U, Pt.locs, Pt.cells, Pt.slots] at X' e1 e2 h1 h2 h3 st
    subst h1; subst h2; subst h3
    exact Or.inl ⟨v, (T.setVm vm₁).calling g' mk (Value.ref b :: As).toArray, t, U', L, hT, X', hL, e1, e2, hq, st⟩
  · dsimp only [Pt.U, Pt.locs, Pt.cells, Pt.slots] at X' e1 e2 h1 h2 h3 st hcl
    subst h1; subst h2; subst h3
    exact Or.inr ⟨q, (T.setVm vm₁).calling g' mk (Value.ref b :: As).toArray, t, U', L, E, ce, hT, X', hL, e1, e2, hq, hce, hcv, vx_cls hW₁ hcl, st⟩
theorem vx_runSX {hh : List (Nat × Nat × Nat × Nat)} (S : CallFix p m c cc nL s args Ts own) (hM : vx_Met l y ws rm Pc Qc XC mc ms free) (cw : vx_CSW R s args own index y bytes maxL ret hh ws rm mc ms n) (hp : PreS s H Pc As)
    (hg : g.method = m) (hn : As.length = n) (hsize : g.locals.size = nL) (hstack : g.stack = As.reverse ++ rest) (hW : 2 * g.monitorRoom + (rest.map fun v => v.category).sum ≤ 8) (hdg : decode cc g.pc = .ok (.invokestatic index, 3)) (hf : cells + mc ≤ R.cells ∧ slots + ms ≤ R.slots) :
    vx_Run p l e R s m args below meth c H locs cells slots mc ms g rest (Qc As.toArray) XC free := by
  obtain ⟨⟨hrc, hrs, hfr, hlo, hws, hcw⟩, hcode, hini, hy, hlen, hl, hstt⟩ := cw
  have hK : vx_Back l R p e below s args y 3 8 (PreOf R mc ms Pc) (PostOf Qc mc ms free) (vx_Post XC mc ms free) := vx_backW (hh := hh) (bytes := bytes) (maxL := maxL) (ret := ret) hM hp.1 hrc hrs hfr hlo hws hcw (fun a' U hW => word_at hW (Or.inl (by first | rfl | simp [Cond.onTables, Cond.keeps, Cond.steady])) hini)
  obtain ⟨hx, hb, hml, ho, -⟩ := S
  intro T hT X
  rcases vx_callSX X hx (hh := hh) (bytes := bytes) (maxL := maxL) (ret := ret) ho hl hstt hini hcode hy hK hg (hsize.trans hml.symm) (argsL := As) (rest := rest) (fun sig h => hn.trans (hlen sig h)) hstack hW (by rw [hb]; exact hdg)
    (fun vm₁ hW₁ => ⟨hf.1, hf.2, hp.2 (T.setVm vm₁) hT hW₁⟩) with ⟨v, vm₁, ⟨U', l2, c2, s2⟩, hW₁, X', ⟨g', mk, t, L, e1, e2, hq, h1, hL, h2, h3⟩, st⟩ | ⟨q, vm₁, ⟨U', l2, c2, s2⟩, hW₁, X', ⟨g', mk, t, L, E, ce, e1, e2, hq, hce, hcv, hcl, h1, hL, h2, h3⟩, st⟩
  · dsimp only [Pt.U, Pt.locs, Pt.cells, Pt.slots] at X' e1 e2 h1 h2 h3 st
    subst h1; subst h2; subst h3
    exact Or.inl ⟨v, (T.setVm vm₁).calling g' mk As.toArray, t, U', L, hT, X', hL, e1, e2, hq, st⟩
  · dsimp only [Pt.U, Pt.locs, Pt.cells, Pt.slots] at X' e1 e2 h1 h2 h3 st hcl
    subst h1; subst h2; subst h3
    exact Or.inr ⟨q, (T.setVm vm₁).calling g' mk As.toArray, t, U', L, E, ce, hT, X', hL, e1, e2, hq, hce, hcv, vx_cls hW₁ hcl, st⟩
end
end VXH
theorem vx_ofWH {l : Launch} {y : MethodName} {ws ws' : List Cond} {rm : Room} {Pc : Array Value → State → Prop} {Qc : Array Value → State → Outcome → State → Prop} {XC : String → State → State → Prop} {mc ms : Nat} {free : Addr → Prop} {cc : ByteArray} {maxL : Nat} {ret : Option FieldType} {hh : List (Nat × Nat × Nat × Nat)}
    (hy : plainName y.cls = true) (hw : ws = Cond.codeWith y cc maxL ret hh :: ws')
    (body : ∀ p e s m args below meth c s₁, BodyLoose p l y (headSpec ws rm) cc maxL ret e s m args below meth c s₁ → c.maxLocals = maxL → Pc args s →
      W p l e (headSpec ws rm).room s m args below meth c s.heap [] 0 0 (vx_MQ below Qc XC args s mc ms free) (entryFrame m args maxL)) : vx_Met l y ws rm Pc Qc XC mc ms free := by
  refine MetFree.of_bodyS (code := cc) (maxLocals := maxL) (ret := ret) hy ?_ ?_
  · intro args s m h hn
    obtain ⟨m9, meth, c, hn9, h1, h2, h3, h4, -, h5, h6, -⟩ := Cond.codeWith_spec (atoms_spec (ws := ws) h _ (by rw [hw]; exact List.mem_cons_self))
    cases hn.symm.trans hn9
    exact ⟨meth, c, h1, h2, h3, h4, h5, h6⟩
  · intro p e s m args below meth c s₁ B hml hP _
    have hh0 : s₁.heap = s.heap := by rw [B.state]; rfl
    obtain ⟨t, a1, o, b1, b2, b3⟩ := body p e s m args below meth c s₁ B hml hP s₁ hh0 (Stand.of_body B)
    exact ⟨t, o, a1, b1, b2, b3⟩
/-! ===== END ===== -/
end
section
def RX0 : String := "ImpactPlate$Accounts"
def TX0 : u_T := fun k => match k with
  | 0 => ("ImpactPlate$Accounts", "fateCounts", "[I", true)
  | 1 => ("ImpactPlate$Accounts", "rainSum", "J", false)
  | 2 => ("ImpactPlate$Accounts", "lastDropTick", "I", false)
  | 3 => ("ImpactPlate$Accounts", "fates", "LImpactPlate$LastNumbers;", true)
  | 4 => ("ImpactPlate$Accounts", "sizes", "LImpactPlate$LastNumbers;", true)
  | _ => ("ImpactPlate$Accounts", "gaps", "LImpactPlate$LastNumbers;", true)
def tyX0 : Nat → FieldType := fun k => match k with
  | 0 => .array .int
  | 1 => .long
  | 2 => .int
  | 3 => .object "ImpactPlate$LastNumbers"
  | 4 => .object "ImpactPlate$LastNumbers"
  | _ => .object "ImpactPlate$LastNumbers"
theorem nmX0 : ∀ a, a < 6 → ∀ b, b < 6 → a ≠ b → (TX0 a).2.1 ≠ (TX0 b).2.1 := by decide +kernel
theorem tyX0_ok : ∀ k, k < 6 → parseFieldDescriptor (TX0 k).2.2.1 = some (tyX0 k) := by decide +kernel
abbrev cX0_init : ByteArray := prog_2_method_1_code
def yX0_init : MethodName := ⟨RX0, "<init>", "()V"⟩
abbrev cX0_enter : ByteArray := prog_2_method_2_code
def yX0_enter : MethodName := ⟨RX0, "enter", "(III)V"⟩
abbrev cX0_dropCount : ByteArray := prog_2_method_3_code
def yX0_dropCount : MethodName := ⟨RX0, "dropCount", "()I"⟩
abbrev cX0_countOf : ByteArray := prog_2_method_4_code
def yX0_countOf : MethodName := ⟨RX0, "countOf", "(I)I"⟩
abbrev cX0_rainOfRecord : ByteArray := prog_2_method_5_code
def yX0_rainOfRecord : MethodName := ⟨RX0, "rainOfRecord", "()J"⟩
abbrev cX0_copyFrom : ByteArray := prog_2_method_6_code
def yX0_copyFrom : MethodName := ⟨RX0, "copyFrom", "(LImpactPlate$Accounts;)V"⟩
def RX1 : String := "ImpactPlate$LastNumbers"
def TX1 : u_T := fun k => match k with
  | 0 => ("ImpactPlate$LastNumbers", "cells", "[I", true)
  | 1 => ("ImpactPlate$LastNumbers", "newest", "I", false)
  | _ => ("ImpactPlate$LastNumbers", "length", "I", false)
def tyX1 : Nat → FieldType := fun k => match k with
  | 0 => .array .int
  | 1 => .int
  | _ => .int
theorem nmX1 : ∀ a, a < 3 → ∀ b, b < 3 → a ≠ b → (TX1 a).2.1 ≠ (TX1 b).2.1 := by decide +kernel
theorem tyX1_ok : ∀ k, k < 3 → parseFieldDescriptor (TX1 k).2.2.1 = some (tyX1 k) := by decide +kernel
abbrev cX1_init : ByteArray := prog_3_method_1_code
def yX1_init : MethodName := ⟨RX1, "<init>", "(I)V"⟩
abbrev cX1_push : ByteArray := prog_3_method_2_code
def yX1_push : MethodName := ⟨RX1, "push", "(I)V"⟩
abbrev cX1_back : ByteArray := prog_3_method_3_code
def yX1_back : MethodName := ⟨RX1, "back", "(I)I"⟩
abbrev cX1_longestRunOf : ByteArray := prog_3_method_4_code
def yX1_longestRunOf : MethodName := ⟨RX1, "longestRunOf", "(I)I"⟩
abbrev cX1_placesOf : ByteArray := prog_3_method_5_code
def yX1_placesOf : MethodName := ⟨RX1, "placesOf", "(II)I"⟩
abbrev cX1_standsAt : ByteArray := prog_3_method_6_code
def yX1_standsAt : MethodName := ⟨RX1, "standsAt", "(III)Z"⟩
abbrev cX1_copyFrom : ByteArray := prog_3_method_7_code
def yX1_copyFrom : MethodName := ⟨RX1, "copyFrom", "(LImpactPlate$LastNumbers;)V"⟩
def RX2 : String := "ImpactPlate$Plate"
def TX2 : u_T := fun k => match k with
  | 0 => ("ImpactPlate$Plate", "tick", "I", false)
  | 1 => ("ImpactPlate$Plate", "settings", "[I", true)
  | 2 => ("ImpactPlate$Plate", "borders", "[I", true)
  | 3 => ("ImpactPlate$Plate", "rings", "Z", false)
  | 4 => ("ImpactPlate$Plate", "struckAt", "I", false)
  | 5 => ("ImpactPlate$Plate", "amplitude", "I", false)
  | 6 => ("ImpactPlate$Plate", "open", "Z", false)
  | 7 => ("ImpactPlate$Plate", "pulseDrops", "I", false)
  | 8 => ("ImpactPlate$Plate", "saturated", "Z", false)
  | 9 => ("ImpactPlate$Plate", "binPulses", "[I", true)
  | 10 => ("ImpactPlate$Plate", "binSaturated", "[I", true)
  | _ => ("ImpactPlate$Plate", "binDrops", "[I", true)
def tyX2 : Nat → FieldType := fun k => match k with
  | 0 => .int
  | 1 => .array .int
  | 2 => .array .int
  | 3 => .boolean
  | 4 => .int
  | 5 => .int
  | 6 => .boolean
  | 7 => .int
  | 8 => .boolean
  | 9 => .array .int
  | 10 => .array .int
  | _ => .array .int
theorem nmX2 : ∀ a, a < 12 → ∀ b, b < 12 → a ≠ b → (TX2 a).2.1 ≠ (TX2 b).2.1 := by decide +kernel
theorem tyX2_ok : ∀ k, k < 12 → parseFieldDescriptor (TX2 k).2.2.1 = some (tyX2 k) := by decide +kernel
abbrev cX2_init : ByteArray := prog_4_method_1_code
def yX2_init : MethodName := ⟨RX2, "<init>", "()V"⟩
abbrev cX2_strengthOf : ByteArray := prog_4_method_2_code
def yX2_strengthOf : MethodName := ⟨RX2, "strengthOf", "(I)I"⟩
abbrev cX2_levelAt : ByteArray := prog_4_method_3_code
def yX2_levelAt : MethodName := ⟨RX2, "levelAt", "(I)I"⟩
abbrev cX2_fateOf : ByteArray := prog_4_method_4_code
def yX2_fateOf : MethodName := ⟨RX2, "fateOf", "(II)I"⟩
abbrev cX2_receive : ByteArray := prog_4_method_5_code
def yX2_receive : MethodName := ⟨RX2, "receive", "(II)I"⟩
abbrev cX2_letPass : ByteArray := prog_4_method_6_code
def yX2_letPass : MethodName := ⟨RX2, "letPass", "(I)V"⟩
abbrev cX2_openPulse : ByteArray := prog_4_method_7_code
def yX2_openPulse : MethodName := ⟨RX2, "openPulse", "(I)V"⟩
abbrev cX2_strike : ByteArray := prog_4_method_8_code
def yX2_strike : MethodName := ⟨RX2, "strike", "(I)V"⟩
abbrev cX2_closePulse : ByteArray := prog_4_method_9_code
def yX2_closePulse : MethodName := ⟨RX2, "closePulse", "()V"⟩
abbrev cX2_binOf : ByteArray := prog_4_method_10_code
def yX2_binOf : MethodName := ⟨RX2, "binOf", "(I)I"⟩
abbrev cX2_lowerEnd : ByteArray := prog_4_method_11_code
def yX2_lowerEnd : MethodName := ⟨RX2, "lowerEnd", "(I)I"⟩
abbrev cX2_upperEnd : ByteArray := prog_4_method_12_code
def yX2_upperEnd : MethodName := ⟨RX2, "upperEnd", "(I)I"⟩
abbrev cX2_wouldAscend : ByteArray := prog_4_method_13_code
def yX2_wouldAscend : MethodName := ⟨RX2, "wouldAscend", "(II)Z"⟩
abbrev cX2_emptyBins : ByteArray := prog_4_method_14_code
def yX2_emptyBins : MethodName := ⟨RX2, "emptyBins", "()V"⟩
abbrev cX2_reckonedRain : ByteArray := prog_4_method_15_code
def yX2_reckonedRain : MethodName := ⟨RX2, "reckonedRain", "(I)J"⟩
abbrev cX2_endByLaw : ByteArray := prog_4_method_16_code
def yX2_endByLaw : MethodName := ⟨RX2, "endByLaw", "(II)I"⟩
abbrev cX2_copySetupFrom : ByteArray := prog_4_method_17_code
def yX2_copySetupFrom : MethodName := ⟨RX2, "copySetupFrom", "(LImpactPlate$Plate;)V"⟩
abbrev cX2_copyFrom : ByteArray := prog_4_method_18_code
def yX2_copyFrom : MethodName := ⟨RX2, "copyFrom", "(LImpactPlate$Plate;)V"⟩
def RX3 : String := "ImpactPlate$State"
def TX3 : u_T := fun k => match k with
  | 0 => ("ImpactPlate$State", "plate", "LImpactPlate$Plate;", true)
  | _ => ("ImpactPlate$State", "accounts", "LImpactPlate$Accounts;", true)
def tyX3 : Nat → FieldType := fun k => match k with
  | 0 => .object "ImpactPlate$Plate"
  | _ => .object "ImpactPlate$Accounts"
theorem nmX3 : ∀ a, a < 2 → ∀ b, b < 2 → a ≠ b → (TX3 a).2.1 ≠ (TX3 b).2.1 := by decide +kernel
theorem tyX3_ok : ∀ k, k < 2 → parseFieldDescriptor (TX3 k).2.2.1 = some (tyX3 k) := by decide +kernel
abbrev cX3_init : ByteArray := prog_5_method_1_code
def yX3_init : MethodName := ⟨RX3, "<init>", "()V"⟩
abbrev cX3_letFall : ByteArray := prog_5_method_2_code
def yX3_letFall : MethodName := ⟨RX3, "letFall", "(II)I"⟩
abbrev cX3_copyFrom : ByteArray := prog_5_method_3_code
def yX3_copyFrom : MethodName := ⟨RX3, "copyFrom", "(LImpactPlate$State;)V"⟩
def RX4 : String := "ImpactPlate$Text"
def TX4 : u_T := fun k => match k with
  | 0 => ("ImpactPlate$Text", "signs", "[I", true)
  | _ => ("ImpactPlate$Text", "length", "I", false)
def tyX4 : Nat → FieldType := fun k => match k with
  | 0 => .array .int
  | _ => .int
theorem nmX4 : ∀ a, a < 2 → ∀ b, b < 2 → a ≠ b → (TX4 a).2.1 ≠ (TX4 b).2.1 := by decide +kernel
theorem tyX4_ok : ∀ k, k < 2 → parseFieldDescriptor (TX4 k).2.2.1 = some (tyX4 k) := by decide +kernel
abbrev cX4_init : ByteArray := prog_6_method_1_code
def yX4_init : MethodName := ⟨RX4, "<init>", "()V"⟩
abbrev cX4_isFull : ByteArray := prog_6_method_2_code
def yX4_isFull : MethodName := ⟨RX4, "isFull", "()Z"⟩
abbrev cX4_add : ByteArray := prog_6_method_3_code
def yX4_add : MethodName := ⟨RX4, "add", "(I)I"⟩
abbrev cX4_wipe : ByteArray := prog_6_method_4_code
def yX4_wipe : MethodName := ⟨RX4, "wipe", "()I"⟩
abbrev cX4_signAt : ByteArray := prog_6_method_5_code
def yX4_signAt : MethodName := ⟨RX4, "signAt", "(I)I"⟩
abbrev cX4_digitAt : ByteArray := prog_6_method_6_code
def yX4_digitAt : MethodName := ⟨RX4, "digitAt", "(I)I"⟩
abbrev cX4_numberAt : ByteArray := prog_6_method_7_code
def yX4_numberAt : MethodName := ⟨RX4, "numberAt", "(I)I"⟩
abbrev cX4_firstError : ByteArray := prog_6_method_8_code
def yX4_firstError : MethodName := ⟨RX4, "firstError", "()I"⟩
abbrev cX4_partLength : ByteArray := prog_6_method_9_code
def yX4_partLength : MethodName := ⟨RX4, "partLength", "(I)I"⟩
abbrev cX4_errorInPart : ByteArray := prog_6_method_10_code
def yX4_errorInPart : MethodName := ⟨RX4, "errorInPart", "(I)I"⟩
abbrev cX4_errorInDrop : ByteArray := prog_6_method_11_code
def yX4_errorInDrop : MethodName := ⟨RX4, "errorInDrop", "(I)I"⟩
abbrev cX4_errorInSetting : ByteArray := prog_6_method_12_code
def yX4_errorInSetting : MethodName := ⟨RX4, "errorInSetting", "(III)I"⟩
abbrev cX4_errorInNumber : ByteArray := prog_6_method_13_code
def yX4_errorInNumber : MethodName := ⟨RX4, "errorInNumber", "(IIII)I"⟩
def RX5 : String := "ImpactPlate"
def TX5 : u_T := fun k => match k with
  | 0 => ("ImpactPlate", "text", "LImpactPlate$Text;", true)
  | 1 => ("ImpactPlate", "now", "LImpactPlate$State;", true)
  | 2 => ("ImpactPlate", "fresh", "LImpactPlate$State;", true)
  | 3 => ("ImpactPlate", "scratch", "LImpactPlate$State;", true)
  | 4 => ("ImpactPlate", "memories", "[LImpactPlate$State;", true)
  | 5 => ("ImpactPlate", "nextMemory", "I", false)
  | 6 => ("ImpactPlate", "memoryCount", "I", false)
  | 7 => ("ImpactPlate", "firstSlot", "LImpactPlate$State;", true)
  | 8 => ("ImpactPlate", "secondSlot", "LImpactPlate$State;", true)
  | 9 => ("ImpactPlate", "firstSlotFilled", "Z", false)
  | _ => ("ImpactPlate", "secondSlotFilled", "Z", false)
def tyX5 : Nat → FieldType := fun k => match k with
  | 0 => .object "ImpactPlate$Text"
  | 1 => .object "ImpactPlate$State"
  | 2 => .object "ImpactPlate$State"
  | 3 => .object "ImpactPlate$State"
  | 4 => .array (.object "ImpactPlate$State")
  | 5 => .int
  | 6 => .int
  | 7 => .object "ImpactPlate$State"
  | 8 => .object "ImpactPlate$State"
  | 9 => .boolean
  | _ => .boolean
theorem nmX5 : ∀ a, a < 11 → ∀ b, b < 11 → a ≠ b → (TX5 a).2.1 ≠ (TX5 b).2.1 := by decide +kernel
theorem tyX5_ok : ∀ k, k < 11 → parseFieldDescriptor (TX5 k).2.2.1 = some (tyX5 k) := by decide +kernel
abbrev cX5_init : ByteArray := prog_1_method_1_code
def yX5_init : MethodName := ⟨RX5, "<init>", "()V"⟩
abbrev cX5_append : ByteArray := prog_1_method_2_code
def yX5_append : MethodName := ⟨RX5, "append", "(I)I"⟩
abbrev cX5_clearText : ByteArray := prog_1_method_3_code
def yX5_clearText : MethodName := ⟨RX5, "clearText", "()I"⟩
abbrev cX5_errorPosition : ByteArray := prog_1_method_4_code
def yX5_errorPosition : MethodName := ⟨RX5, "errorPosition", "()I"⟩
abbrev cX5_load : ByteArray := prog_1_method_5_code
def yX5_load : MethodName := ⟨RX5, "load", "()I"⟩
abbrev cX5_about : ByteArray := prog_1_method_6_code
def yX5_about : MethodName := ⟨RX5, "about", "(I)I"⟩
abbrev cX5_setting : ByteArray := prog_1_method_7_code
def yX5_setting : MethodName := ⟨RX5, "setting", "(I)I"⟩
abbrev cX5_bin : ByteArray := prog_1_method_8_code
def yX5_bin : MethodName := ⟨RX5, "bin", "(II)I"⟩
abbrev cX5_pulse : ByteArray := prog_1_method_9_code
def yX5_pulse : MethodName := ⟨RX5, "pulse", "(I)I"⟩
abbrev cX5_fate : ByteArray := prog_1_method_10_code
def yX5_fate : MethodName := ⟨RX5, "fate", "(I)I"⟩
abbrev cX5_longest : ByteArray := prog_1_method_11_code
def yX5_longest : MethodName := ⟨RX5, "longest", "(I)I"⟩
abbrev cX5_pattern : ByteArray := prog_1_method_12_code
def yX5_pattern : MethodName := ⟨RX5, "pattern", "(II)I"⟩
abbrev cX5_rain : ByteArray := prog_1_method_13_code
def yX5_rain : MethodName := ⟨RX5, "rain", "(I)J"⟩
abbrev cX5_trueRain : ByteArray := prog_1_method_14_code
def yX5_trueRain : MethodName := ⟨RX5, "trueRain", "()J"⟩
abbrev cX5_drop : ByteArray := prog_1_method_15_code
def yX5_drop : MethodName := ⟨RX5, "drop", "(II)I"⟩
abbrev cX5_pass : ByteArray := prog_1_method_16_code
def yX5_pass : MethodName := ⟨RX5, "pass", "(I)I"⟩
abbrev cX5_set : ByteArray := prog_1_method_17_code
def yX5_set : MethodName := ⟨RX5, "set", "(II)I"⟩
abbrev cX5_setBorder : ByteArray := prog_1_method_18_code
def yX5_setBorder : MethodName := ⟨RX5, "setBorder", "(II)I"⟩
abbrev cX5_empty : ByteArray := prog_1_method_19_code
def yX5_empty : MethodName := ⟨RX5, "empty", "()I"⟩
abbrev cX5_undo : ByteArray := prog_1_method_20_code
def yX5_undo : MethodName := ⟨RX5, "undo", "()I"⟩
abbrev cX5_wouldBe : ByteArray := prog_1_method_21_code
def yX5_wouldBe : MethodName := ⟨RX5, "wouldBe", "(II)I"⟩
abbrev cX5_leastSize : ByteArray := prog_1_method_22_code
def yX5_leastSize : MethodName := ⟨RX5, "leastSize", "(I)I"⟩
abbrev cX5_quietIn : ByteArray := prog_1_method_23_code
def yX5_quietIn : MethodName := ⟨RX5, "quietIn", "(I)I"⟩
abbrev cX5_replay : ByteArray := prog_1_method_24_code
def yX5_replay : MethodName := ⟨RX5, "replay", "(III)I"⟩
abbrev cX5_bestWindow : ByteArray := prog_1_method_25_code
def yX5_bestWindow : MethodName := ⟨RX5, "bestWindow", "(I)I"⟩
abbrev cX5_runScript : ByteArray := prog_1_method_26_code
def yX5_runScript : MethodName := ⟨RX5, "runScript", "(IJ)I"⟩
abbrev cX5_simulate : ByteArray := prog_1_method_27_code
def yX5_simulate : MethodName := ⟨RX5, "simulate", "(JI)I"⟩
abbrev cX5_save : ByteArray := prog_1_method_28_code
def yX5_save : MethodName := ⟨RX5, "save", "(I)I"⟩
abbrev cX5_restore : ByteArray := prog_1_method_29_code
def yX5_restore : MethodName := ⟨RX5, "restore", "(I)I"⟩
abbrev cX5_remember : ByteArray := prog_1_method_30_code
def yX5_remember : MethodName := ⟨RX5, "remember", "()V"⟩
abbrev cX5_runPart : ByteArray := prog_1_method_31_code
def yX5_runPart : MethodName := ⟨RX5, "runPart", "(I)V"⟩
abbrev cX5_replayRecord : ByteArray := prog_1_method_32_code
def yX5_replayRecord : MethodName := ⟨RX5, "replayRecord", "(III)I"⟩
abbrev cX5_runCommand : ByteArray := prog_1_method_33_code
def yX5_runCommand : MethodName := ⟨RX5, "runCommand", "(I)Z"⟩
abbrev cX5_scriptedFall : ByteArray := prog_1_method_34_code
def yX5_scriptedFall : MethodName := ⟨RX5, "scriptedFall", "(II)Z"⟩
abbrev cX5_scriptedPass : ByteArray := prog_1_method_35_code
def yX5_scriptedPass : MethodName := ⟨RX5, "scriptedPass", "(I)Z"⟩
abbrev cX5_scriptedSetting : ByteArray := prog_1_method_36_code
def yX5_scriptedSetting : MethodName := ⟨RX5, "scriptedSetting", "(II)Z"⟩
abbrev cX5_isOutside : ByteArray := prog_1_method_37_code
def yX5_isOutside : MethodName := ⟨RX5, "isOutside", "(III)Z"⟩
abbrev cX5_isFall : ByteArray := prog_1_method_38_code
def yX5_isFall : MethodName := ⟨RX5, "isFall", "(II)Z"⟩
abbrev cX5_isSetting : ByteArray := prog_1_method_39_code
def yX5_isSetting : MethodName := ⟨RX5, "isSetting", "(II)Z"⟩
abbrev cX5_areFates : ByteArray := prog_1_method_40_code
def yX5_areFates : MethodName := ⟨RX5, "areFates", "(II)Z"⟩
abbrev cX5_withoutLastGroups : ByteArray := prog_1_method_41_code
def yX5_withoutLastGroups : MethodName := ⟨RX5, "withoutLastGroups", "(JI)J"⟩
abbrev cX5_weightOf : ByteArray := prog_1_method_42_code
def yX5_weightOf : MethodName := ⟨RX5, "weightOf", "(I)I"⟩
abbrev cX5_sumOf : ByteArray := prog_1_method_43_code
def yX5_sumOf : MethodName := ⟨RX5, "sumOf", "([I)I"⟩
abbrev cX5_copyRow : ByteArray := prog_1_method_44_code
def yX5_copyRow : MethodName := ⟨RX5, "copyRow", "([I[I)V"⟩
abbrev cX5_clearRow : ByteArray := prog_1_method_45_code
def yX5_clearRow : MethodName := ⟨RX5, "clearRow", "([I)V"⟩
abbrev cX5_wholeRoot : ByteArray := prog_1_method_46_code
def yX5_wholeRoot : MethodName := ⟨RX5, "wholeRoot", "(I)I"⟩
abbrev cX5_cube : ByteArray := prog_1_method_47_code
def yX5_cube : MethodName := ⟨RX5, "cube", "(I)J"⟩
def RX6 : String := "ImpactPlateModel"
def TX6 : u_T := fun k => match k with
  | 0 => ("ImpactPlateModel", "refusal", "I", false)
  | 1 => ("ImpactPlateModel", "script", "[I", true)
  | 2 => ("ImpactPlateModel", "scriptSize", "I", false)
  | 3 => ("ImpactPlateModel", "spot", "I", false)
  | 4 => ("ImpactPlateModel", "isGood", "Z", false)
  | 5 => ("ImpactPlateModel", "read", "[I", true)
  | 6 => ("ImpactPlateModel", "now", "[I", true)
  | 7 => ("ImpactPlateModel", "trial", "[I", true)
  | 8 => ("ImpactPlateModel", "diary", "[I", true)
  | 9 => ("ImpactPlateModel", "acts", "I", false)
  | 10 => ("ImpactPlateModel", "kept", "[I", true)
  | _ => ("ImpactPlateModel", "isKept", "[Z", true)
def tyX6 : Nat → FieldType := fun k => match k with
  | 0 => .int
  | 1 => .array .int
  | 2 => .int
  | 3 => .int
  | 4 => .boolean
  | 5 => .array .int
  | 6 => .array .int
  | 7 => .array .int
  | 8 => .array .int
  | 9 => .int
  | 10 => .array .int
  | _ => .array .boolean
theorem nmX6 : ∀ a, a < 12 → ∀ b, b < 12 → a ≠ b → (TX6 a).2.1 ≠ (TX6 b).2.1 := by decide +kernel
theorem tyX6_ok : ∀ k, k < 12 → parseFieldDescriptor (TX6 k).2.2.1 = some (tyX6 k) := by decide +kernel
abbrev cX6_init : ByteArray := prog_8_method_1_code
def yX6_init : MethodName := ⟨RX6, "<init>", "()V"⟩
abbrev cX6_thrown : ByteArray := prog_8_method_2_code
def yX6_thrown : MethodName := ⟨RX6, "thrown", "()I"⟩
abbrev cX6_refused : ByteArray := prog_8_method_3_code
def yX6_refused : MethodName := ⟨RX6, "refused", "(I)Z"⟩
abbrev cX6_in : ByteArray := prog_8_method_4_code
def yX6_in : MethodName := ⟨RX6, "in", "(JJJ)Z"⟩
abbrev cX6_copy : ByteArray := prog_8_method_5_code
def yX6_copy : MethodName := ⟨RX6, "copy", "([II[III)V"⟩
abbrev cX6_tenTo : ByteArray := prog_8_method_6_code
def yX6_tenTo : MethodName := ⟨RX6, "tenTo", "(I)J"⟩
abbrev cX6_least : ByteArray := prog_8_method_7_code
def yX6_least : MethodName := ⟨RX6, "least", "(I)I"⟩
abbrev cX6_most : ByteArray := prog_8_method_8_code
def yX6_most : MethodName := ⟨RX6, "most", "(I)I"⟩
abbrev cX6_firstBorder : ByteArray := prog_8_method_9_code
def yX6_firstBorder : MethodName := ⟨RX6, "firstBorder", "(I)I"⟩
abbrev cX6_clean : ByteArray := prog_8_method_10_code
def yX6_clean : MethodName := ⟨RX6, "clean", "([I)V"⟩
abbrev cX6_note : ByteArray := prog_8_method_11_code
def yX6_note : MethodName := ⟨RX6, "note", "()V"⟩
abbrev cX6_begin : ByteArray := prog_8_method_12_code
def yX6_begin : MethodName := ⟨RX6, "begin", "()V"⟩
abbrev cX6_levelAt : ByteArray := prog_8_method_13_code
def yX6_levelAt : MethodName := ⟨RX6, "levelAt", "([II)I"⟩
abbrev cX6_level : ByteArray := prog_8_method_14_code
def yX6_level : MethodName := ⟨RX6, "level", "([I)I"⟩
abbrev cX6_low : ByteArray := prog_8_method_15_code
def yX6_low : MethodName := ⟨RX6, "low", "([II)I"⟩
abbrev cX6_high : ByteArray := prog_8_method_16_code
def yX6_high : MethodName := ⟨RX6, "high", "([II)I"⟩
abbrev cX6_close : ByteArray := prog_8_method_17_code
def yX6_close : MethodName := ⟨RX6, "close", "([I)V"⟩
abbrev cX6_isInWindow : ByteArray := prog_8_method_18_code
def yX6_isInWindow : MethodName := ⟨RX6, "isInWindow", "([I)Z"⟩
abbrev cX6_goTicks : ByteArray := prog_8_method_19_code
def yX6_goTicks : MethodName := ⟨RX6, "goTicks", "([II)V"⟩
abbrev cX6_setMuch : ByteArray := prog_8_method_20_code
def yX6_setMuch : MethodName := ⟨RX6, "setMuch", "([II)V"⟩
abbrev cX6_fall : ByteArray := prog_8_method_21_code
def yX6_fall : MethodName := ⟨RX6, "fall", "([II)I"⟩
abbrev cX6_trace : ByteArray := prog_8_method_22_code
def yX6_trace : MethodName := ⟨RX6, "trace", "([II)V"⟩
abbrev cX6_record : ByteArray := prog_8_method_23_code
def yX6_record : MethodName := ⟨RX6, "record", "([II)V"⟩
abbrev cX6_goDrop : ByteArray := prog_8_method_24_code
def yX6_goDrop : MethodName := ⟨RX6, "goDrop", "([III)I"⟩
abbrev cX6_append : ByteArray := prog_8_method_25_code
def yX6_append : MethodName := ⟨RX6, "append", "(I)I"⟩
abbrev cX6_clearText : ByteArray := prog_8_method_26_code
def yX6_clearText : MethodName := ⟨RX6, "clearText", "()I"⟩
abbrev cX6_isNext : ByteArray := prog_8_method_27_code
def yX6_isNext : MethodName := ⟨RX6, "isNext", "(I)Z"⟩
abbrev cX6_accept : ByteArray := prog_8_method_28_code
def yX6_accept : MethodName := ⟨RX6, "accept", "(Z)V"⟩
abbrev cX6_digit : ByteArray := prog_8_method_29_code
def yX6_digit : MethodName := ⟨RX6, "digit", "(II)I"⟩
abbrev cX6_two : ByteArray := prog_8_method_30_code
def yX6_two : MethodName := ⟨RX6, "two", "(II)I"⟩
abbrev cX6_readPart : ByteArray := prog_8_method_31_code
def yX6_readPart : MethodName := ⟨RX6, "readPart", "()V"⟩
abbrev cX6_readText : ByteArray := prog_8_method_32_code
def yX6_readText : MethodName := ⟨RX6, "readText", "()I"⟩
abbrev cX6_errorPosition : ByteArray := prog_8_method_33_code
def yX6_errorPosition : MethodName := ⟨RX6, "errorPosition", "()I"⟩
abbrev cX6_drops : ByteArray := prog_8_method_34_code
def yX6_drops : MethodName := ⟨RX6, "drops", "([I)I"⟩
abbrev cX6_load : ByteArray := prog_8_method_35_code
def yX6_load : MethodName := ⟨RX6, "load", "()I"⟩
abbrev cX6_inBins : ByteArray := prog_8_method_36_code
def yX6_inBins : MethodName := ⟨RX6, "inBins", "([II)I"⟩
abbrev cX6_about : ByteArray := prog_8_method_37_code
def yX6_about : MethodName := ⟨RX6, "about", "(I)I"⟩
abbrev cX6_setting : ByteArray := prog_8_method_38_code
def yX6_setting : MethodName := ⟨RX6, "setting", "(I)I"⟩
abbrev cX6_isBin : ByteArray := prog_8_method_39_code
def yX6_isBin : MethodName := ⟨RX6, "isBin", "(I)Z"⟩
abbrev cX6_bin : ByteArray := prog_8_method_40_code
def yX6_bin : MethodName := ⟨RX6, "bin", "(II)I"⟩
abbrev cX6_pulse : ByteArray := prog_8_method_41_code
def yX6_pulse : MethodName := ⟨RX6, "pulse", "(I)I"⟩
abbrev cX6_fate : ByteArray := prog_8_method_42_code
def yX6_fate : MethodName := ⟨RX6, "fate", "(I)I"⟩
abbrev cX6_longest : ByteArray := prog_8_method_43_code
def yX6_longest : MethodName := ⟨RX6, "longest", "(I)I"⟩
abbrev cX6_areFates : ByteArray := prog_8_method_44_code
def yX6_areFates : MethodName := ⟨RX6, "areFates", "(II)Z"⟩
abbrev cX6_pattern : ByteArray := prog_8_method_45_code
def yX6_pattern : MethodName := ⟨RX6, "pattern", "(II)I"⟩
abbrev cX6_root : ByteArray := prog_8_method_46_code
def yX6_root : MethodName := ⟨RX6, "root", "(I)I"⟩
abbrev cX6_rainOf : ByteArray := prog_8_method_47_code
def yX6_rainOf : MethodName := ⟨RX6, "rainOf", "([II)J"⟩
abbrev cX6_rain : ByteArray := prog_8_method_48_code
def yX6_rain : MethodName := ⟨RX6, "rain", "(I)J"⟩
abbrev cX6_trueRain : ByteArray := prog_8_method_49_code
def yX6_trueRain : MethodName := ⟨RX6, "trueRain", "()J"⟩
abbrev cX6_isDrop : ByteArray := prog_8_method_50_code
def yX6_isDrop : MethodName := ⟨RX6, "isDrop", "(II)Z"⟩
abbrev cX6_drop : ByteArray := prog_8_method_51_code
def yX6_drop : MethodName := ⟨RX6, "drop", "(II)I"⟩
abbrev cX6_pass : ByteArray := prog_8_method_52_code
def yX6_pass : MethodName := ⟨RX6, "pass", "(I)I"⟩
abbrev cX6_isSetting : ByteArray := prog_8_method_53_code
def yX6_isSetting : MethodName := ⟨RX6, "isSetting", "(II)Z"⟩
abbrev cX6_set : ByteArray := prog_8_method_54_code
def yX6_set : MethodName := ⟨RX6, "set", "(II)I"⟩
abbrev cX6_setBorder : ByteArray := prog_8_method_55_code
def yX6_setBorder : MethodName := ⟨RX6, "setBorder", "(II)I"⟩
abbrev cX6_empty : ByteArray := prog_8_method_56_code
def yX6_empty : MethodName := ⟨RX6, "empty", "()I"⟩
abbrev cX6_undo : ByteArray := prog_8_method_57_code
def yX6_undo : MethodName := ⟨RX6, "undo", "()I"⟩
abbrev cX6_fateOf : ByteArray := prog_8_method_58_code
def yX6_fateOf : MethodName := ⟨RX6, "fateOf", "(II)I"⟩
abbrev cX6_wouldBe : ByteArray := prog_8_method_59_code
def yX6_wouldBe : MethodName := ⟨RX6, "wouldBe", "(II)I"⟩
abbrev cX6_leastSize : ByteArray := prog_8_method_60_code
def yX6_leastSize : MethodName := ⟨RX6, "leastSize", "(I)I"⟩
abbrev cX6_quietIn : ByteArray := prog_8_method_61_code
def yX6_quietIn : MethodName := ⟨RX6, "quietIn", "(I)I"⟩
abbrev cX6_play : ByteArray := prog_8_method_62_code
def yX6_play : MethodName := ⟨RX6, "play", "(II)V"⟩
abbrev cX6_replay : ByteArray := prog_8_method_63_code
def yX6_replay : MethodName := ⟨RX6, "replay", "(III)I"⟩
abbrev cX6_bestWindow : ByteArray := prog_8_method_64_code
def yX6_bestWindow : MethodName := ⟨RX6, "bestWindow", "(I)I"⟩
abbrev cX6_does : ByteArray := prog_8_method_65_code
def yX6_does : MethodName := ⟨RX6, "does", "(I)Z"⟩
abbrev cX6_runScript : ByteArray := prog_8_method_66_code
def yX6_runScript : MethodName := ⟨RX6, "runScript", "(IJ)I"⟩
abbrev cX6_simulate : ByteArray := prog_8_method_67_code
def yX6_simulate : MethodName := ⟨RX6, "simulate", "(JI)I"⟩
abbrev cX6_save : ByteArray := prog_8_method_68_code
def yX6_save : MethodName := ⟨RX6, "save", "(I)I"⟩
abbrev cX6_restore : ByteArray := prog_8_method_69_code
def yX6_restore : MethodName := ⟨RX6, "restore", "(I)I"⟩
def RJ9 : String := "java/lang/Math"
def TJ9 : u_T := fun k => match k with
  | _ => ("", "", "", false)
def tyJ9 : Nat → FieldType := fun k => match k with
  | _ => .int
theorem nmJ9 : ∀ a, a < 0 → ∀ b, b < 0 → a ≠ b → (TJ9 a).2.1 ≠ (TJ9 b).2.1 := by decide +kernel
theorem tyJ9_ok : ∀ k, k < 0 → parseFieldDescriptor (TJ9 k).2.2.1 = some (tyJ9 k) := by decide +kernel
abbrev cJ9_abs_067f4 : ByteArray := prog_13_method_61_code
def yJ9_abs_067f4 : MethodName := ⟨RJ9, "abs", "(J)J"⟩
abbrev cJ9_max_7cf53 : ByteArray := prog_13_method_65_code
def yJ9_max_7cf53 : MethodName := ⟨RJ9, "max", "(II)I"⟩
abbrev cJ9_min_7cf53 : ByteArray := prog_13_method_69_code
def yJ9_min_7cf53 : MethodName := ⟨RJ9, "min", "(II)I"⟩
def RJ0 : String := "java/lang/String"
def TJ0 : u_T := fun k => match k with
  | _ => ("", "", "", false)
def tyJ0 : Nat → FieldType := fun k => match k with
  | _ => .int
theorem nmJ0 : ∀ a, a < 0 → ∀ b, b < 0 → a ≠ b → (TJ0 a).2.1 ≠ (TJ0 b).2.1 := by decide +kernel
theorem tyJ0_ok : ∀ k, k < 0 → parseFieldDescriptor (TJ0 k).2.2.1 = some (tyJ0 k) := by decide +kernel
def RL : String := "ImpactPlateLaw"
abbrev cL_append : ByteArray := method_3_code
def yL_append : MethodName := ⟨RL, "append", "(LImpactPlate;I[J)I"⟩
abbrev cL_load : ByteArray := method_4_code
def yL_load : MethodName := ⟨RL, "load", "(LImpactPlate;[J)I"⟩
abbrev cL_about : ByteArray := method_5_code
def yL_about : MethodName := ⟨RL, "about", "(LImpactPlate;I[J)I"⟩
abbrev cL_setting : ByteArray := method_6_code
def yL_setting : MethodName := ⟨RL, "setting", "(LImpactPlate;I[J)I"⟩
abbrev cL_bin : ByteArray := method_7_code
def yL_bin : MethodName := ⟨RL, "bin", "(LImpactPlate;II[J)I"⟩
abbrev cL_pulse : ByteArray := method_8_code
def yL_pulse : MethodName := ⟨RL, "pulse", "(LImpactPlate;I[J)I"⟩
abbrev cL_fate : ByteArray := method_9_code
def yL_fate : MethodName := ⟨RL, "fate", "(LImpactPlate;I[J)I"⟩
abbrev cL_longest : ByteArray := method_10_code
def yL_longest : MethodName := ⟨RL, "longest", "(LImpactPlate;I[J)I"⟩
abbrev cL_pattern : ByteArray := method_11_code
def yL_pattern : MethodName := ⟨RL, "pattern", "(LImpactPlate;II[J)I"⟩
abbrev cL_rain : ByteArray := method_12_code
def yL_rain : MethodName := ⟨RL, "rain", "(LImpactPlate;I[J)I"⟩
abbrev cL_drop : ByteArray := method_13_code
def yL_drop : MethodName := ⟨RL, "drop", "(LImpactPlate;II[J)I"⟩
abbrev cL_pass : ByteArray := method_14_code
def yL_pass : MethodName := ⟨RL, "pass", "(LImpactPlate;I[J)I"⟩
abbrev cL_set : ByteArray := method_15_code
def yL_set : MethodName := ⟨RL, "set", "(LImpactPlate;II[J)I"⟩
abbrev cL_setBorder : ByteArray := method_16_code
def yL_setBorder : MethodName := ⟨RL, "setBorder", "(LImpactPlate;II[J)I"⟩
abbrev cL_undo : ByteArray := method_17_code
def yL_undo : MethodName := ⟨RL, "undo", "(LImpactPlate;[J)I"⟩
abbrev cL_wouldBe : ByteArray := method_18_code
def yL_wouldBe : MethodName := ⟨RL, "wouldBe", "(LImpactPlate;II[J)I"⟩
abbrev cL_leastSize : ByteArray := method_19_code
def yL_leastSize : MethodName := ⟨RL, "leastSize", "(LImpactPlate;I[J)I"⟩
abbrev cL_quietIn : ByteArray := method_20_code
def yL_quietIn : MethodName := ⟨RL, "quietIn", "(LImpactPlate;I[J)I"⟩
abbrev cL_replay : ByteArray := method_21_code
def yL_replay : MethodName := ⟨RL, "replay", "(LImpactPlate;III[J)I"⟩
abbrev cL_bestWindow : ByteArray := method_22_code
def yL_bestWindow : MethodName := ⟨RL, "bestWindow", "(LImpactPlate;I[J)I"⟩
abbrev cL_runScript : ByteArray := method_23_code
def yL_runScript : MethodName := ⟨RL, "runScript", "(LImpactPlate;IJ[J)I"⟩
abbrev cL_simulate : ByteArray := method_24_code
def yL_simulate : MethodName := ⟨RL, "simulate", "(LImpactPlate;JI[J)I"⟩
abbrev cL_save : ByteArray := method_25_code
def yL_save : MethodName := ⟨RL, "save", "(LImpactPlate;I[J)I"⟩
abbrev cL_restore : ByteArray := method_26_code
def yL_restore : MethodName := ⟨RL, "restore", "(LImpactPlate;I[J)I"⟩
abbrev cL_law : ByteArray := code
def yL_law : MethodName := ⟨RL, "law", "([I)Z"⟩
abbrev vwCl : List vw_C := [(RX0, TX0, 6), (RX1, TX1, 3), (RX2, TX2, 12), (RX3, TX3, 2), (RX4, TX4, 2), (RX5, TX5, 11), (RX6, TX6, 12)]
end
section
theorem dX0_init_0 : decode cX0_init 0 = .ok (.aload_n 0, 1) := by decide +kernel
theorem dX0_init_1 : decode cX0_init 1 = .ok (.invokespecial 3, 3) := by decide +kernel
theorem dX0_init_4 : decode cX0_init 4 = .ok (.aload_n 0, 1) := by decide +kernel
theorem dX0_init_5 : decode cX0_init 5 = .ok (.iconst 4, 1) := by decide +kernel
theorem dX0_init_6 : decode cX0_init 6 = .ok (.newarray .int, 2) := by decide +kernel
theorem dX0_init_8 : decode cX0_init 8 = .ok (.putfield 9, 3) := by decide +kernel
theorem dX0_init_11 : decode cX0_init 11 = .ok (.aload_n 0, 1) := by decide +kernel
theorem dX0_init_12 : decode cX0_init 12 = .ok (.lconst 0, 1) := by decide +kernel
theorem dX0_init_13 : decode cX0_init 13 = .ok (.putfield 15, 3) := by decide +kernel
theorem dX0_init_16 : decode cX0_init 16 = .ok (.aload_n 0, 1) := by decide +kernel
theorem dX0_init_17 : decode cX0_init 17 = .ok (.iconst 0, 1) := by decide +kernel
theorem dX0_init_18 : decode cX0_init 18 = .ok (.putfield 19, 3) := by decide +kernel
theorem dX0_init_21 : decode cX0_init 21 = .ok (.aload_n 0, 1) := by decide +kernel
theorem dX0_init_22 : decode cX0_init 22 = .ok (.new 23, 3) := by decide +kernel
theorem dX0_init_25 : decode cX0_init 25 = .ok (.dup, 1) := by decide +kernel
theorem dX0_init_26 : decode cX0_init 26 = .ok (.bipush 60, 2) := by decide +kernel
theorem dX0_init_28 : decode cX0_init 28 = .ok (.invokespecial 25, 3) := by decide +kernel
theorem dX0_init_31 : decode cX0_init 31 = .ok (.putfield 28, 3) := by decide +kernel
theorem dX0_init_34 : decode cX0_init 34 = .ok (.aload_n 0, 1) := by decide +kernel
theorem dX0_init_35 : decode cX0_init 35 = .ok (.new 23, 3) := by decide +kernel
theorem dX0_init_38 : decode cX0_init 38 = .ok (.dup, 1) := by decide +kernel
theorem dX0_init_39 : decode cX0_init 39 = .ok (.bipush 40, 2) := by decide +kernel
theorem dX0_init_41 : decode cX0_init 41 = .ok (.invokespecial 25, 3) := by decide +kernel
theorem dX0_init_44 : decode cX0_init 44 = .ok (.putfield 32, 3) := by decide +kernel
theorem dX0_init_47 : decode cX0_init 47 = .ok (.aload_n 0, 1) := by decide +kernel
theorem dX0_init_48 : decode cX0_init 48 = .ok (.new 23, 3) := by decide +kernel
theorem dX0_init_51 : decode cX0_init 51 = .ok (.dup, 1) := by decide +kernel
theorem dX0_init_52 : decode cX0_init 52 = .ok (.bipush 40, 2) := by decide +kernel
theorem dX0_init_54 : decode cX0_init 54 = .ok (.invokespecial 25, 3) := by decide +kernel
theorem dX0_init_57 : decode cX0_init 57 = .ok (.putfield 35, 3) := by decide +kernel
theorem dX0_init_60 : decode cX0_init 60 = .ok (.return_, 1) := by decide +kernel
theorem dX0_enter_0 : decode cX0_enter 0 = .ok (.iload_n 3, 1) := by decide +kernel
theorem dX0_enter_1 : decode cX0_enter 1 = .ok (.ifCond .lt 22, 3) := by decide +kernel
theorem dX0_enter_4 : decode cX0_enter 4 = .ok (.iload_n 3, 1) := by decide +kernel
theorem dX0_enter_5 : decode cX0_enter 5 = .ok (.aload_n 0, 1) := by decide +kernel
theorem dX0_enter_6 : decode cX0_enter 6 = .ok (.getfield 9, 3) := by decide +kernel
theorem dX0_enter_9 : decode cX0_enter 9 = .ok (.arraylength, 1) := by decide +kernel
theorem dX0_enter_10 : decode cX0_enter 10 = .ok (.if_icmp .ge 13, 3) := by decide +kernel
theorem dX0_enter_13 : decode cX0_enter 13 = .ok (.aload_n 0, 1) := by decide +kernel
theorem dX0_enter_14 : decode cX0_enter 14 = .ok (.getfield 9, 3) := by decide +kernel
theorem dX0_enter_17 : decode cX0_enter 17 = .ok (.iload_n 3, 1) := by decide +kernel
theorem dX0_enter_18 : decode cX0_enter 18 = .ok (.dup2, 1) := by decide +kernel
theorem dX0_enter_19 : decode cX0_enter 19 = .ok (.iaload, 1) := by decide +kernel
theorem dX0_enter_20 : decode cX0_enter 20 = .ok (.iconst 1, 1) := by decide +kernel
theorem dX0_enter_21 : decode cX0_enter 21 = .ok (.iadd, 1) := by decide +kernel
theorem dX0_enter_22 : decode cX0_enter 22 = .ok (.iastore, 1) := by decide +kernel
theorem dX0_enter_23 : decode cX0_enter 23 = .ok (.aload_n 0, 1) := by decide +kernel
theorem dX0_enter_24 : decode cX0_enter 24 = .ok (.dup, 1) := by decide +kernel
theorem dX0_enter_25 : decode cX0_enter 25 = .ok (.getfield 15, 3) := by decide +kernel
theorem dX0_enter_28 : decode cX0_enter 28 = .ok (.iload_n 2, 1) := by decide +kernel
theorem dX0_enter_29 : decode cX0_enter 29 = .ok (.invokestatic 38, 3) := by decide +kernel
theorem dX0_enter_32 : decode cX0_enter 32 = .ok (.ladd, 1) := by decide +kernel
theorem dX0_enter_33 : decode cX0_enter 33 = .ok (.putfield 15, 3) := by decide +kernel
theorem dX0_enter_36 : decode cX0_enter 36 = .ok (.aload_n 0, 1) := by decide +kernel
theorem dX0_enter_37 : decode cX0_enter 37 = .ok (.getfield 28, 3) := by decide +kernel
theorem dX0_enter_40 : decode cX0_enter 40 = .ok (.iload_n 3, 1) := by decide +kernel
theorem dX0_enter_41 : decode cX0_enter 41 = .ok (.invokevirtual 42, 3) := by decide +kernel
theorem dX0_enter_44 : decode cX0_enter 44 = .ok (.aload_n 0, 1) := by decide +kernel
theorem dX0_enter_45 : decode cX0_enter 45 = .ok (.getfield 32, 3) := by decide +kernel
theorem dX0_enter_48 : decode cX0_enter 48 = .ok (.iload_n 2, 1) := by decide +kernel
theorem dX0_enter_49 : decode cX0_enter 49 = .ok (.invokevirtual 42, 3) := by decide +kernel
theorem dX0_enter_52 : decode cX0_enter 52 = .ok (.aload_n 0, 1) := by decide +kernel
theorem dX0_enter_53 : decode cX0_enter 53 = .ok (.getfield 35, 3) := by decide +kernel
theorem dX0_enter_56 : decode cX0_enter 56 = .ok (.iload_n 1, 1) := by decide +kernel
theorem dX0_enter_57 : decode cX0_enter 57 = .ok (.aload_n 0, 1) := by decide +kernel
theorem dX0_enter_58 : decode cX0_enter 58 = .ok (.getfield 19, 3) := by decide +kernel
theorem dX0_enter_61 : decode cX0_enter 61 = .ok (.isub, 1) := by decide +kernel
theorem dX0_enter_62 : decode cX0_enter 62 = .ok (.invokevirtual 42, 3) := by decide +kernel
theorem dX0_enter_65 : decode cX0_enter 65 = .ok (.aload_n 0, 1) := by decide +kernel
theorem dX0_enter_66 : decode cX0_enter 66 = .ok (.iload_n 1, 1) := by decide +kernel
theorem dX0_enter_67 : decode cX0_enter 67 = .ok (.putfield 19, 3) := by decide +kernel
theorem dX0_enter_70 : decode cX0_enter 70 = .ok (.return_, 1) := by decide +kernel
theorem dX0_dropCount_0 : decode cX0_dropCount 0 = .ok (.aload_n 0, 1) := by decide +kernel
theorem dX0_dropCount_1 : decode cX0_dropCount 1 = .ok (.getfield 9, 3) := by decide +kernel
theorem dX0_dropCount_4 : decode cX0_dropCount 4 = .ok (.invokestatic 45, 3) := by decide +kernel
theorem dX0_dropCount_7 : decode cX0_dropCount 7 = .ok (.ireturn, 1) := by decide +kernel
theorem dX0_countOf_0 : decode cX0_countOf 0 = .ok (.iload_n 1, 1) := by decide +kernel
theorem dX0_countOf_1 : decode cX0_countOf 1 = .ok (.ifCond .lt 21, 3) := by decide +kernel
theorem dX0_countOf_4 : decode cX0_countOf 4 = .ok (.iload_n 1, 1) := by decide +kernel
theorem dX0_countOf_5 : decode cX0_countOf 5 = .ok (.aload_n 0, 1) := by decide +kernel
theorem dX0_countOf_6 : decode cX0_countOf 6 = .ok (.getfield 9, 3) := by decide +kernel
theorem dX0_countOf_9 : decode cX0_countOf 9 = .ok (.arraylength, 1) := by decide +kernel
theorem dX0_countOf_10 : decode cX0_countOf 10 = .ok (.if_icmp .ge 12, 3) := by decide +kernel
theorem dX0_countOf_13 : decode cX0_countOf 13 = .ok (.aload_n 0, 1) := by decide +kernel
theorem dX0_countOf_14 : decode cX0_countOf 14 = .ok (.getfield 9, 3) := by decide +kernel
theorem dX0_countOf_17 : decode cX0_countOf 17 = .ok (.iload_n 1, 1) := by decide +kernel
theorem dX0_countOf_18 : decode cX0_countOf 18 = .ok (.iaload, 1) := by decide +kernel
theorem dX0_countOf_19 : decode cX0_countOf 19 = .ok (.goto 4, 3) := by decide +kernel
theorem dX0_countOf_22 : decode cX0_countOf 22 = .ok (.iconst 0, 1) := by decide +kernel
theorem dX0_countOf_23 : decode cX0_countOf 23 = .ok (.ireturn, 1) := by decide +kernel
theorem dX0_rainOfRecord_0 : decode cX0_rainOfRecord 0 = .ok (.lconst 0, 1) := by decide +kernel
theorem dX0_rainOfRecord_1 : decode cX0_rainOfRecord 1 = .ok (.lstore_n 1, 1) := by decide +kernel
theorem dX0_rainOfRecord_2 : decode cX0_rainOfRecord 2 = .ok (.iconst 0, 1) := by decide +kernel
theorem dX0_rainOfRecord_3 : decode cX0_rainOfRecord 3 = .ok (.istore_n 3, 1) := by decide +kernel
theorem dX0_rainOfRecord_4 : decode cX0_rainOfRecord 4 = .ok (.iload_n 3, 1) := by decide +kernel
theorem dX0_rainOfRecord_5 : decode cX0_rainOfRecord 5 = .ok (.aload_n 0, 1) := by decide +kernel
theorem dX0_rainOfRecord_6 : decode cX0_rainOfRecord 6 = .ok (.getfield 32, 3) := by decide +kernel
theorem dX0_rainOfRecord_9 : decode cX0_rainOfRecord 9 = .ok (.getfield 49, 3) := by decide +kernel
theorem dX0_rainOfRecord_12 : decode cX0_rainOfRecord 12 = .ok (.if_icmp .ge 23, 3) := by decide +kernel
theorem dX0_rainOfRecord_15 : decode cX0_rainOfRecord 15 = .ok (.lload_n 1, 1) := by decide +kernel
theorem dX0_rainOfRecord_16 : decode cX0_rainOfRecord 16 = .ok (.aload_n 0, 1) := by decide +kernel
theorem dX0_rainOfRecord_17 : decode cX0_rainOfRecord 17 = .ok (.getfield 32, 3) := by decide +kernel
theorem dX0_rainOfRecord_20 : decode cX0_rainOfRecord 20 = .ok (.iload_n 3, 1) := by decide +kernel
theorem dX0_rainOfRecord_21 : decode cX0_rainOfRecord 21 = .ok (.invokevirtual 52, 3) := by decide +kernel
theorem dX0_rainOfRecord_24 : decode cX0_rainOfRecord 24 = .ok (.invokestatic 38, 3) := by decide +kernel
theorem dX0_rainOfRecord_27 : decode cX0_rainOfRecord 27 = .ok (.ladd, 1) := by decide +kernel
theorem dX0_rainOfRecord_28 : decode cX0_rainOfRecord 28 = .ok (.lstore_n 1, 1) := by decide +kernel
theorem dX0_rainOfRecord_29 : decode cX0_rainOfRecord 29 = .ok (.iinc 3 1, 3) := by decide +kernel
theorem dX0_rainOfRecord_32 : decode cX0_rainOfRecord 32 = .ok (.goto (-28), 3) := by decide +kernel
theorem dX0_rainOfRecord_35 : decode cX0_rainOfRecord 35 = .ok (.lload_n 1, 1) := by decide +kernel
theorem dX0_rainOfRecord_36 : decode cX0_rainOfRecord 36 = .ok (.lreturn, 1) := by decide +kernel
theorem dX0_copyFrom_0 : decode cX0_copyFrom 0 = .ok (.aload_n 1, 1) := by decide +kernel
theorem dX0_copyFrom_1 : decode cX0_copyFrom 1 = .ok (.getfield 9, 3) := by decide +kernel
theorem dX0_copyFrom_4 : decode cX0_copyFrom 4 = .ok (.aload_n 0, 1) := by decide +kernel
theorem dX0_copyFrom_5 : decode cX0_copyFrom 5 = .ok (.getfield 9, 3) := by decide +kernel
theorem dX0_copyFrom_8 : decode cX0_copyFrom 8 = .ok (.invokestatic 56, 3) := by decide +kernel
theorem dX0_copyFrom_11 : decode cX0_copyFrom 11 = .ok (.aload_n 0, 1) := by decide +kernel
theorem dX0_copyFrom_12 : decode cX0_copyFrom 12 = .ok (.aload_n 1, 1) := by decide +kernel
theorem dX0_copyFrom_13 : decode cX0_copyFrom 13 = .ok (.getfield 15, 3) := by decide +kernel
theorem dX0_copyFrom_16 : decode cX0_copyFrom 16 = .ok (.putfield 15, 3) := by decide +kernel
theorem dX0_copyFrom_19 : decode cX0_copyFrom 19 = .ok (.aload_n 0, 1) := by decide +kernel
theorem dX0_copyFrom_20 : decode cX0_copyFrom 20 = .ok (.aload_n 1, 1) := by decide +kernel
theorem dX0_copyFrom_21 : decode cX0_copyFrom 21 = .ok (.getfield 19, 3) := by decide +kernel
theorem dX0_copyFrom_24 : decode cX0_copyFrom 24 = .ok (.putfield 19, 3) := by decide +kernel
theorem dX0_copyFrom_27 : decode cX0_copyFrom 27 = .ok (.aload_n 0, 1) := by decide +kernel
theorem dX0_copyFrom_28 : decode cX0_copyFrom 28 = .ok (.getfield 28, 3) := by decide +kernel
theorem dX0_copyFrom_31 : decode cX0_copyFrom 31 = .ok (.aload_n 1, 1) := by decide +kernel
theorem dX0_copyFrom_32 : decode cX0_copyFrom 32 = .ok (.getfield 28, 3) := by decide +kernel
theorem dX0_copyFrom_35 : decode cX0_copyFrom 35 = .ok (.invokevirtual 60, 3) := by decide +kernel
theorem dX0_copyFrom_38 : decode cX0_copyFrom 38 = .ok (.aload_n 0, 1) := by decide +kernel
theorem dX0_copyFrom_39 : decode cX0_copyFrom 39 = .ok (.getfield 32, 3) := by decide +kernel
theorem dX0_copyFrom_42 : decode cX0_copyFrom 42 = .ok (.aload_n 1, 1) := by decide +kernel
theorem dX0_copyFrom_43 : decode cX0_copyFrom 43 = .ok (.getfield 32, 3) := by decide +kernel
theorem dX0_copyFrom_46 : decode cX0_copyFrom 46 = .ok (.invokevirtual 60, 3) := by decide +kernel
theorem dX0_copyFrom_49 : decode cX0_copyFrom 49 = .ok (.aload_n 0, 1) := by decide +kernel
theorem dX0_copyFrom_50 : decode cX0_copyFrom 50 = .ok (.getfield 35, 3) := by decide +kernel
theorem dX0_copyFrom_53 : decode cX0_copyFrom 53 = .ok (.aload_n 1, 1) := by decide +kernel
theorem dX0_copyFrom_54 : decode cX0_copyFrom 54 = .ok (.getfield 35, 3) := by decide +kernel
theorem dX0_copyFrom_57 : decode cX0_copyFrom 57 = .ok (.invokevirtual 60, 3) := by decide +kernel
theorem dX0_copyFrom_60 : decode cX0_copyFrom 60 = .ok (.return_, 1) := by decide +kernel
theorem dX1_init_0 : decode cX1_init 0 = .ok (.aload_n 0, 1) := by decide +kernel
theorem dX1_init_1 : decode cX1_init 1 = .ok (.invokespecial 3, 3) := by decide +kernel
theorem dX1_init_4 : decode cX1_init 4 = .ok (.aload_n 0, 1) := by decide +kernel
theorem dX1_init_5 : decode cX1_init 5 = .ok (.iconst 0, 1) := by decide +kernel
theorem dX1_init_6 : decode cX1_init 6 = .ok (.putfield 9, 3) := by decide +kernel
theorem dX1_init_9 : decode cX1_init 9 = .ok (.aload_n 0, 1) := by decide +kernel
theorem dX1_init_10 : decode cX1_init 10 = .ok (.iconst 0, 1) := by decide +kernel
theorem dX1_init_11 : decode cX1_init 11 = .ok (.putfield 15, 3) := by decide +kernel
theorem dX1_init_14 : decode cX1_init 14 = .ok (.aload_n 0, 1) := by decide +kernel
theorem dX1_init_15 : decode cX1_init 15 = .ok (.iload_n 1, 1) := by decide +kernel
theorem dX1_init_16 : decode cX1_init 16 = .ok (.iconst 1, 1) := by decide +kernel
theorem dX1_init_17 : decode cX1_init 17 = .ok (.invokestatic 18, 3) := by decide +kernel
theorem dX1_init_20 : decode cX1_init 20 = .ok (.newarray .int, 2) := by decide +kernel
theorem dX1_init_22 : decode cX1_init 22 = .ok (.putfield 24, 3) := by decide +kernel
theorem dX1_init_25 : decode cX1_init 25 = .ok (.return_, 1) := by decide +kernel
theorem dX1_push_0 : decode cX1_push 0 = .ok (.aload_n 0, 1) := by decide +kernel
theorem dX1_push_1 : decode cX1_push 1 = .ok (.aload_n 0, 1) := by decide +kernel
theorem dX1_push_2 : decode cX1_push 2 = .ok (.getfield 9, 3) := by decide +kernel
theorem dX1_push_5 : decode cX1_push 5 = .ok (.aload_n 0, 1) := by decide +kernel
theorem dX1_push_6 : decode cX1_push 6 = .ok (.getfield 24, 3) := by decide +kernel
theorem dX1_push_9 : decode cX1_push 9 = .ok (.arraylength, 1) := by decide +kernel
theorem dX1_push_10 : decode cX1_push 10 = .ok (.iconst 1, 1) := by decide +kernel
theorem dX1_push_11 : decode cX1_push 11 = .ok (.isub, 1) := by decide +kernel
theorem dX1_push_12 : decode cX1_push 12 = .ok (.if_icmp .ge 12, 3) := by decide +kernel
theorem dX1_push_15 : decode cX1_push 15 = .ok (.aload_n 0, 1) := by decide +kernel
theorem dX1_push_16 : decode cX1_push 16 = .ok (.getfield 9, 3) := by decide +kernel
theorem dX1_push_19 : decode cX1_push 19 = .ok (.iconst 1, 1) := by decide +kernel
theorem dX1_push_20 : decode cX1_push 20 = .ok (.iadd, 1) := by decide +kernel
theorem dX1_push_21 : decode cX1_push 21 = .ok (.goto 4, 3) := by decide +kernel
theorem dX1_push_24 : decode cX1_push 24 = .ok (.iconst 0, 1) := by decide +kernel
theorem dX1_push_25 : decode cX1_push 25 = .ok (.putfield 9, 3) := by decide +kernel
theorem dX1_push_28 : decode cX1_push 28 = .ok (.aload_n 0, 1) := by decide +kernel
theorem dX1_push_29 : decode cX1_push 29 = .ok (.getfield 24, 3) := by decide +kernel
theorem dX1_push_32 : decode cX1_push 32 = .ok (.aload_n 0, 1) := by decide +kernel
theorem dX1_push_33 : decode cX1_push 33 = .ok (.getfield 9, 3) := by decide +kernel
theorem dX1_push_36 : decode cX1_push 36 = .ok (.iload_n 1, 1) := by decide +kernel
theorem dX1_push_37 : decode cX1_push 37 = .ok (.iastore, 1) := by decide +kernel
theorem dX1_push_38 : decode cX1_push 38 = .ok (.aload_n 0, 1) := by decide +kernel
theorem dX1_push_39 : decode cX1_push 39 = .ok (.aload_n 0, 1) := by decide +kernel
theorem dX1_push_40 : decode cX1_push 40 = .ok (.getfield 15, 3) := by decide +kernel
theorem dX1_push_43 : decode cX1_push 43 = .ok (.iconst 1, 1) := by decide +kernel
theorem dX1_push_44 : decode cX1_push 44 = .ok (.iadd, 1) := by decide +kernel
theorem dX1_push_45 : decode cX1_push 45 = .ok (.aload_n 0, 1) := by decide +kernel
theorem dX1_push_46 : decode cX1_push 46 = .ok (.getfield 24, 3) := by decide +kernel
theorem dX1_push_49 : decode cX1_push 49 = .ok (.arraylength, 1) := by decide +kernel
theorem dX1_push_50 : decode cX1_push 50 = .ok (.invokestatic 28, 3) := by decide +kernel
theorem dX1_push_53 : decode cX1_push 53 = .ok (.putfield 15, 3) := by decide +kernel
theorem dX1_push_56 : decode cX1_push 56 = .ok (.return_, 1) := by decide +kernel
theorem dX1_back_0 : decode cX1_back 0 = .ok (.iload_n 1, 1) := by decide +kernel
theorem dX1_back_1 : decode cX1_back 1 = .ok (.ifCond .lt 11, 3) := by decide +kernel
theorem dX1_back_4 : decode cX1_back 4 = .ok (.iload_n 1, 1) := by decide +kernel
theorem dX1_back_5 : decode cX1_back 5 = .ok (.aload_n 0, 1) := by decide +kernel
theorem dX1_back_6 : decode cX1_back 6 = .ok (.getfield 15, 3) := by decide +kernel
theorem dX1_back_9 : decode cX1_back 9 = .ok (.if_icmp .lt 6, 3) := by decide +kernel
theorem dX1_back_12 : decode cX1_back 12 = .ok (.bipush (-9), 2) := by decide +kernel
theorem dX1_back_14 : decode cX1_back 14 = .ok (.ireturn, 1) := by decide +kernel
theorem dX1_back_15 : decode cX1_back 15 = .ok (.aload_n 0, 1) := by decide +kernel
theorem dX1_back_16 : decode cX1_back 16 = .ok (.getfield 9, 3) := by decide +kernel
theorem dX1_back_19 : decode cX1_back 19 = .ok (.iload_n 1, 1) := by decide +kernel
theorem dX1_back_20 : decode cX1_back 20 = .ok (.isub, 1) := by decide +kernel
theorem dX1_back_21 : decode cX1_back 21 = .ok (.istore_n 2, 1) := by decide +kernel
theorem dX1_back_22 : decode cX1_back 22 = .ok (.aload_n 0, 1) := by decide +kernel
theorem dX1_back_23 : decode cX1_back 23 = .ok (.getfield 24, 3) := by decide +kernel
theorem dX1_back_26 : decode cX1_back 26 = .ok (.iload_n 2, 1) := by decide +kernel
theorem dX1_back_27 : decode cX1_back 27 = .ok (.ifCond .lt 7, 3) := by decide +kernel
theorem dX1_back_30 : decode cX1_back 30 = .ok (.iload_n 2, 1) := by decide +kernel
theorem dX1_back_31 : decode cX1_back 31 = .ok (.goto 10, 3) := by decide +kernel
theorem dX1_back_34 : decode cX1_back 34 = .ok (.iload_n 2, 1) := by decide +kernel
theorem dX1_back_35 : decode cX1_back 35 = .ok (.aload_n 0, 1) := by decide +kernel
theorem dX1_back_36 : decode cX1_back 36 = .ok (.getfield 24, 3) := by decide +kernel
theorem dX1_back_39 : decode cX1_back 39 = .ok (.arraylength, 1) := by decide +kernel
theorem dX1_back_40 : decode cX1_back 40 = .ok (.iadd, 1) := by decide +kernel
theorem dX1_back_41 : decode cX1_back 41 = .ok (.iaload, 1) := by decide +kernel
theorem dX1_back_42 : decode cX1_back 42 = .ok (.ireturn, 1) := by decide +kernel
theorem dX1_longestRunOf_0 : decode cX1_longestRunOf 0 = .ok (.iconst 0, 1) := by decide +kernel
theorem dX1_longestRunOf_1 : decode cX1_longestRunOf 1 = .ok (.istore_n 2, 1) := by decide +kernel
theorem dX1_longestRunOf_2 : decode cX1_longestRunOf 2 = .ok (.iconst 0, 1) := by decide +kernel
theorem dX1_longestRunOf_3 : decode cX1_longestRunOf 3 = .ok (.istore_n 3, 1) := by decide +kernel
theorem dX1_longestRunOf_4 : decode cX1_longestRunOf 4 = .ok (.iconst 0, 1) := by decide +kernel
theorem dX1_longestRunOf_5 : decode cX1_longestRunOf 5 = .ok (.istore 4, 2) := by decide +kernel
theorem dX1_longestRunOf_7 : decode cX1_longestRunOf 7 = .ok (.iload 4, 2) := by decide +kernel
theorem dX1_longestRunOf_9 : decode cX1_longestRunOf 9 = .ok (.aload_n 0, 1) := by decide +kernel
theorem dX1_longestRunOf_10 : decode cX1_longestRunOf 10 = .ok (.getfield 15, 3) := by decide +kernel
theorem dX1_longestRunOf_13 : decode cX1_longestRunOf 13 = .ok (.if_icmp .ge 33, 3) := by decide +kernel
theorem dX1_longestRunOf_16 : decode cX1_longestRunOf 16 = .ok (.aload_n 0, 1) := by decide +kernel
theorem dX1_longestRunOf_17 : decode cX1_longestRunOf 17 = .ok (.iload 4, 2) := by decide +kernel
theorem dX1_longestRunOf_19 : decode cX1_longestRunOf 19 = .ok (.invokevirtual 31, 3) := by decide +kernel
theorem dX1_longestRunOf_22 : decode cX1_longestRunOf 22 = .ok (.iload_n 1, 1) := by decide +kernel
theorem dX1_longestRunOf_23 : decode cX1_longestRunOf 23 = .ok (.if_icmp .ne 9, 3) := by decide +kernel
theorem dX1_longestRunOf_26 : decode cX1_longestRunOf 26 = .ok (.iload_n 3, 1) := by decide +kernel
theorem dX1_longestRunOf_27 : decode cX1_longestRunOf 27 = .ok (.iconst 1, 1) := by decide +kernel
theorem dX1_longestRunOf_28 : decode cX1_longestRunOf 28 = .ok (.iadd, 1) := by decide +kernel
theorem dX1_longestRunOf_29 : decode cX1_longestRunOf 29 = .ok (.goto 4, 3) := by decide +kernel
theorem dX1_longestRunOf_32 : decode cX1_longestRunOf 32 = .ok (.iconst 0, 1) := by decide +kernel
theorem dX1_longestRunOf_33 : decode cX1_longestRunOf 33 = .ok (.istore_n 3, 1) := by decide +kernel
theorem dX1_longestRunOf_34 : decode cX1_longestRunOf 34 = .ok (.iload_n 2, 1) := by decide +kernel
theorem dX1_longestRunOf_35 : decode cX1_longestRunOf 35 = .ok (.iload_n 3, 1) := by decide +kernel
theorem dX1_longestRunOf_36 : decode cX1_longestRunOf 36 = .ok (.invokestatic 18, 3) := by decide +kernel
theorem dX1_longestRunOf_39 : decode cX1_longestRunOf 39 = .ok (.istore_n 2, 1) := by decide +kernel
theorem dX1_longestRunOf_40 : decode cX1_longestRunOf 40 = .ok (.iinc 4 1, 3) := by decide +kernel
theorem dX1_longestRunOf_43 : decode cX1_longestRunOf 43 = .ok (.goto (-36), 3) := by decide +kernel
theorem dX1_longestRunOf_46 : decode cX1_longestRunOf 46 = .ok (.iload_n 2, 1) := by decide +kernel
theorem dX1_longestRunOf_47 : decode cX1_longestRunOf 47 = .ok (.ireturn, 1) := by decide +kernel
theorem dX1_placesOf_0 : decode cX1_placesOf 0 = .ok (.iconst 0, 1) := by decide +kernel
theorem dX1_placesOf_1 : decode cX1_placesOf 1 = .ok (.istore_n 3, 1) := by decide +kernel
theorem dX1_placesOf_2 : decode cX1_placesOf 2 = .ok (.iconst 0, 1) := by decide +kernel
theorem dX1_placesOf_3 : decode cX1_placesOf 3 = .ok (.istore 4, 2) := by decide +kernel
theorem dX1_placesOf_5 : decode cX1_placesOf 5 = .ok (.iload 4, 2) := by decide +kernel
theorem dX1_placesOf_7 : decode cX1_placesOf 7 = .ok (.iload_n 1, 1) := by decide +kernel
theorem dX1_placesOf_8 : decode cX1_placesOf 8 = .ok (.iadd, 1) := by decide +kernel
theorem dX1_placesOf_9 : decode cX1_placesOf 9 = .ok (.aload_n 0, 1) := by decide +kernel
theorem dX1_placesOf_10 : decode cX1_placesOf 10 = .ok (.getfield 15, 3) := by decide +kernel
theorem dX1_placesOf_13 : decode cX1_placesOf 13 = .ok (.if_icmp .gt 23, 3) := by decide +kernel
theorem dX1_placesOf_16 : decode cX1_placesOf 16 = .ok (.aload_n 0, 1) := by decide +kernel
theorem dX1_placesOf_17 : decode cX1_placesOf 17 = .ok (.iload 4, 2) := by decide +kernel
theorem dX1_placesOf_19 : decode cX1_placesOf 19 = .ok (.iload_n 1, 1) := by decide +kernel
theorem dX1_placesOf_20 : decode cX1_placesOf 20 = .ok (.iload_n 2, 1) := by decide +kernel
theorem dX1_placesOf_21 : decode cX1_placesOf 21 = .ok (.invokevirtual 35, 3) := by decide +kernel
theorem dX1_placesOf_24 : decode cX1_placesOf 24 = .ok (.ifCond .eq 6, 3) := by decide +kernel
theorem dX1_placesOf_27 : decode cX1_placesOf 27 = .ok (.iinc 3 1, 3) := by decide +kernel
theorem dX1_placesOf_30 : decode cX1_placesOf 30 = .ok (.iinc 4 1, 3) := by decide +kernel
theorem dX1_placesOf_33 : decode cX1_placesOf 33 = .ok (.goto (-28), 3) := by decide +kernel
theorem dX1_placesOf_36 : decode cX1_placesOf 36 = .ok (.iload_n 3, 1) := by decide +kernel
theorem dX1_placesOf_37 : decode cX1_placesOf 37 = .ok (.ireturn, 1) := by decide +kernel
theorem dX1_standsAt_0 : decode cX1_standsAt 0 = .ok (.iload_n 3, 1) := by decide +kernel
theorem dX1_standsAt_1 : decode cX1_standsAt 1 = .ok (.istore 4, 2) := by decide +kernel
theorem dX1_standsAt_3 : decode cX1_standsAt 3 = .ok (.iconst 0, 1) := by decide +kernel
theorem dX1_standsAt_4 : decode cX1_standsAt 4 = .ok (.istore 5, 2) := by decide +kernel
theorem dX1_standsAt_6 : decode cX1_standsAt 6 = .ok (.iload 5, 2) := by decide +kernel
theorem dX1_standsAt_8 : decode cX1_standsAt 8 = .ok (.iload_n 2, 1) := by decide +kernel
theorem dX1_standsAt_9 : decode cX1_standsAt 9 = .ok (.if_icmp .ge 34, 3) := by decide +kernel
theorem dX1_standsAt_12 : decode cX1_standsAt 12 = .ok (.aload_n 0, 1) := by decide +kernel
theorem dX1_standsAt_13 : decode cX1_standsAt 13 = .ok (.iload_n 1, 1) := by decide +kernel
theorem dX1_standsAt_14 : decode cX1_standsAt 14 = .ok (.iload 5, 2) := by decide +kernel
theorem dX1_standsAt_16 : decode cX1_standsAt 16 = .ok (.iadd, 1) := by decide +kernel
theorem dX1_standsAt_17 : decode cX1_standsAt 17 = .ok (.invokevirtual 31, 3) := by decide +kernel
theorem dX1_standsAt_20 : decode cX1_standsAt 20 = .ok (.iload 4, 2) := by decide +kernel
theorem dX1_standsAt_22 : decode cX1_standsAt 22 = .ok (.bipush 10, 2) := by decide +kernel
theorem dX1_standsAt_24 : decode cX1_standsAt 24 = .ok (.irem, 1) := by decide +kernel
theorem dX1_standsAt_25 : decode cX1_standsAt 25 = .ok (.if_icmp .eq 5, 3) := by decide +kernel
theorem dX1_standsAt_28 : decode cX1_standsAt 28 = .ok (.iconst 0, 1) := by decide +kernel
theorem dX1_standsAt_29 : decode cX1_standsAt 29 = .ok (.ireturn, 1) := by decide +kernel
theorem dX1_standsAt_30 : decode cX1_standsAt 30 = .ok (.iload 4, 2) := by decide +kernel
theorem dX1_standsAt_32 : decode cX1_standsAt 32 = .ok (.bipush 10, 2) := by decide +kernel
theorem dX1_standsAt_34 : decode cX1_standsAt 34 = .ok (.idiv, 1) := by decide +kernel
theorem dX1_standsAt_35 : decode cX1_standsAt 35 = .ok (.istore 4, 2) := by decide +kernel
theorem dX1_standsAt_37 : decode cX1_standsAt 37 = .ok (.iinc 5 1, 3) := by decide +kernel
theorem dX1_standsAt_40 : decode cX1_standsAt 40 = .ok (.goto (-34), 3) := by decide +kernel
theorem dX1_standsAt_43 : decode cX1_standsAt 43 = .ok (.iconst 1, 1) := by decide +kernel
theorem dX1_standsAt_44 : decode cX1_standsAt 44 = .ok (.ireturn, 1) := by decide +kernel
theorem dX1_copyFrom_0 : decode cX1_copyFrom 0 = .ok (.aload_n 1, 1) := by decide +kernel
theorem dX1_copyFrom_1 : decode cX1_copyFrom 1 = .ok (.getfield 24, 3) := by decide +kernel
theorem dX1_copyFrom_4 : decode cX1_copyFrom 4 = .ok (.aload_n 0, 1) := by decide +kernel
theorem dX1_copyFrom_5 : decode cX1_copyFrom 5 = .ok (.getfield 24, 3) := by decide +kernel
theorem dX1_copyFrom_8 : decode cX1_copyFrom 8 = .ok (.invokestatic 39, 3) := by decide +kernel
theorem dX1_copyFrom_11 : decode cX1_copyFrom 11 = .ok (.aload_n 0, 1) := by decide +kernel
theorem dX1_copyFrom_12 : decode cX1_copyFrom 12 = .ok (.aload_n 1, 1) := by decide +kernel
theorem dX1_copyFrom_13 : decode cX1_copyFrom 13 = .ok (.getfield 9, 3) := by decide +kernel
theorem dX1_copyFrom_16 : decode cX1_copyFrom 16 = .ok (.putfield 9, 3) := by decide +kernel
theorem dX1_copyFrom_19 : decode cX1_copyFrom 19 = .ok (.aload_n 0, 1) := by decide +kernel
theorem dX1_copyFrom_20 : decode cX1_copyFrom 20 = .ok (.aload_n 1, 1) := by decide +kernel
theorem dX1_copyFrom_21 : decode cX1_copyFrom 21 = .ok (.getfield 15, 3) := by decide +kernel
theorem dX1_copyFrom_24 : decode cX1_copyFrom 24 = .ok (.putfield 15, 3) := by decide +kernel
theorem dX1_copyFrom_27 : decode cX1_copyFrom 27 = .ok (.return_, 1) := by decide +kernel
theorem dX2_init_0 : decode cX2_init 0 = .ok (.aload_n 0, 1) := by decide +kernel
theorem dX2_init_1 : decode cX2_init 1 = .ok (.invokespecial 3, 3) := by decide +kernel
theorem dX2_init_4 : decode cX2_init 4 = .ok (.aload_n 0, 1) := by decide +kernel
theorem dX2_init_5 : decode cX2_init 5 = .ok (.iconst 0, 1) := by decide +kernel
theorem dX2_init_6 : decode cX2_init 6 = .ok (.putfield 9, 3) := by decide +kernel
theorem dX2_init_9 : decode cX2_init 9 = .ok (.aload_n 0, 1) := by decide +kernel
theorem dX2_init_10 : decode cX2_init 10 = .ok (.iconst 5, 1) := by decide +kernel
theorem dX2_init_11 : decode cX2_init 11 = .ok (.newarray .int, 2) := by decide +kernel
theorem dX2_init_13 : decode cX2_init 13 = .ok (.dup, 1) := by decide +kernel
theorem dX2_init_14 : decode cX2_init 14 = .ok (.iconst 0, 1) := by decide +kernel
theorem dX2_init_15 : decode cX2_init 15 = .ok (.iconst 0, 1) := by decide +kernel
theorem dX2_init_16 : decode cX2_init 16 = .ok (.iastore, 1) := by decide +kernel
theorem dX2_init_17 : decode cX2_init 17 = .ok (.dup, 1) := by decide +kernel
theorem dX2_init_18 : decode cX2_init 18 = .ok (.iconst 1, 1) := by decide +kernel
theorem dX2_init_19 : decode cX2_init 19 = .ok (.iconst 3, 1) := by decide +kernel
theorem dX2_init_20 : decode cX2_init 20 = .ok (.iastore, 1) := by decide +kernel
theorem dX2_init_21 : decode cX2_init 21 = .ok (.dup, 1) := by decide +kernel
theorem dX2_init_22 : decode cX2_init 22 = .ok (.iconst 2, 1) := by decide +kernel
theorem dX2_init_23 : decode cX2_init 23 = .ok (.iconst 4, 1) := by decide +kernel
theorem dX2_init_24 : decode cX2_init 24 = .ok (.iastore, 1) := by decide +kernel
theorem dX2_init_25 : decode cX2_init 25 = .ok (.dup, 1) := by decide +kernel
theorem dX2_init_26 : decode cX2_init 26 = .ok (.iconst 3, 1) := by decide +kernel
theorem dX2_init_27 : decode cX2_init 27 = .ok (.bipush 20, 2) := by decide +kernel
theorem dX2_init_29 : decode cX2_init 29 = .ok (.iastore, 1) := by decide +kernel
theorem dX2_init_30 : decode cX2_init 30 = .ok (.dup, 1) := by decide +kernel
theorem dX2_init_31 : decode cX2_init 31 = .ok (.iconst 4, 1) := by decide +kernel
theorem dX2_init_32 : decode cX2_init 32 = .ok (.sipush 3000, 3) := by decide +kernel
theorem dX2_init_35 : decode cX2_init 35 = .ok (.iastore, 1) := by decide +kernel
theorem dX2_init_36 : decode cX2_init 36 = .ok (.putfield 15, 3) := by decide +kernel
theorem dX2_init_39 : decode cX2_init 39 = .ok (.aload_n 0, 1) := by decide +kernel
theorem dX2_init_40 : decode cX2_init 40 = .ok (.bipush 8, 2) := by decide +kernel
theorem dX2_init_42 : decode cX2_init 42 = .ok (.newarray .int, 2) := by decide +kernel
theorem dX2_init_44 : decode cX2_init 44 = .ok (.dup, 1) := by decide +kernel
theorem dX2_init_45 : decode cX2_init 45 = .ok (.iconst 0, 1) := by decide +kernel
theorem dX2_init_46 : decode cX2_init 46 = .ok (.iconst 0, 1) := by decide +kernel
theorem dX2_init_47 : decode cX2_init 47 = .ok (.iastore, 1) := by decide +kernel
theorem dX2_init_48 : decode cX2_init 48 = .ok (.dup, 1) := by decide +kernel
theorem dX2_init_49 : decode cX2_init 49 = .ok (.iconst 1, 1) := by decide +kernel
theorem dX2_init_50 : decode cX2_init 50 = .ok (.bipush 100, 2) := by decide +kernel
theorem dX2_init_52 : decode cX2_init 52 = .ok (.iastore, 1) := by decide +kernel
theorem dX2_init_53 : decode cX2_init 53 = .ok (.dup, 1) := by decide +kernel
theorem dX2_init_54 : decode cX2_init 54 = .ok (.iconst 2, 1) := by decide +kernel
theorem dX2_init_55 : decode cX2_init 55 = .ok (.sipush 225, 3) := by decide +kernel
theorem dX2_init_58 : decode cX2_init 58 = .ok (.iastore, 1) := by decide +kernel
theorem dX2_init_59 : decode cX2_init 59 = .ok (.dup, 1) := by decide +kernel
theorem dX2_init_60 : decode cX2_init 60 = .ok (.iconst 3, 1) := by decide +kernel
theorem dX2_init_61 : decode cX2_init 61 = .ok (.sipush 400, 3) := by decide +kernel
theorem dX2_init_64 : decode cX2_init 64 = .ok (.iastore, 1) := by decide +kernel
theorem dX2_init_65 : decode cX2_init 65 = .ok (.dup, 1) := by decide +kernel
theorem dX2_init_66 : decode cX2_init 66 = .ok (.iconst 4, 1) := by decide +kernel
theorem dX2_init_67 : decode cX2_init 67 = .ok (.sipush 900, 3) := by decide +kernel
theorem dX2_init_70 : decode cX2_init 70 = .ok (.iastore, 1) := by decide +kernel
theorem dX2_init_71 : decode cX2_init 71 = .ok (.dup, 1) := by decide +kernel
theorem dX2_init_72 : decode cX2_init 72 = .ok (.iconst 5, 1) := by decide +kernel
theorem dX2_init_73 : decode cX2_init 73 = .ok (.sipush 1600, 3) := by decide +kernel
theorem dX2_init_76 : decode cX2_init 76 = .ok (.iastore, 1) := by decide +kernel
theorem dX2_init_77 : decode cX2_init 77 = .ok (.dup, 1) := by decide +kernel
theorem dX2_init_78 : decode cX2_init 78 = .ok (.bipush 6, 2) := by decide +kernel
theorem dX2_init_80 : decode cX2_init 80 = .ok (.sipush 2500, 3) := by decide +kernel
theorem dX2_init_83 : decode cX2_init 83 = .ok (.iastore, 1) := by decide +kernel
theorem dX2_init_84 : decode cX2_init 84 = .ok (.dup, 1) := by decide +kernel
theorem dX2_init_85 : decode cX2_init 85 = .ok (.bipush 7, 2) := by decide +kernel
theorem dX2_init_87 : decode cX2_init 87 = .ok (.sipush 3600, 3) := by decide +kernel
theorem dX2_init_90 : decode cX2_init 90 = .ok (.iastore, 1) := by decide +kernel
theorem dX2_init_91 : decode cX2_init 91 = .ok (.putfield 19, 3) := by decide +kernel
theorem dX2_init_94 : decode cX2_init 94 = .ok (.aload_n 0, 1) := by decide +kernel
theorem dX2_init_95 : decode cX2_init 95 = .ok (.iconst 0, 1) := by decide +kernel
theorem dX2_init_96 : decode cX2_init 96 = .ok (.putfield 22, 3) := by decide +kernel
theorem dX2_init_99 : decode cX2_init 99 = .ok (.aload_n 0, 1) := by decide +kernel
theorem dX2_init_100 : decode cX2_init 100 = .ok (.iconst 0, 1) := by decide +kernel
theorem dX2_init_101 : decode cX2_init 101 = .ok (.putfield 26, 3) := by decide +kernel
theorem dX2_init_104 : decode cX2_init 104 = .ok (.aload_n 0, 1) := by decide +kernel
theorem dX2_init_105 : decode cX2_init 105 = .ok (.iconst 0, 1) := by decide +kernel
theorem dX2_init_106 : decode cX2_init 106 = .ok (.putfield 29, 3) := by decide +kernel
theorem dX2_init_109 : decode cX2_init 109 = .ok (.aload_n 0, 1) := by decide +kernel
theorem dX2_init_110 : decode cX2_init 110 = .ok (.iconst 0, 1) := by decide +kernel
theorem dX2_init_111 : decode cX2_init 111 = .ok (.putfield 32, 3) := by decide +kernel
theorem dX2_init_114 : decode cX2_init 114 = .ok (.aload_n 0, 1) := by decide +kernel
theorem dX2_init_115 : decode cX2_init 115 = .ok (.iconst 0, 1) := by decide +kernel
theorem dX2_init_116 : decode cX2_init 116 = .ok (.putfield 35, 3) := by decide +kernel
theorem dX2_init_119 : decode cX2_init 119 = .ok (.aload_n 0, 1) := by decide +kernel
theorem dX2_init_120 : decode cX2_init 120 = .ok (.iconst 0, 1) := by decide +kernel
theorem dX2_init_121 : decode cX2_init 121 = .ok (.putfield 38, 3) := by decide +kernel
theorem dX2_init_124 : decode cX2_init 124 = .ok (.aload_n 0, 1) := by decide +kernel
theorem dX2_init_125 : decode cX2_init 125 = .ok (.bipush 8, 2) := by decide +kernel
theorem dX2_init_127 : decode cX2_init 127 = .ok (.newarray .int, 2) := by decide +kernel
theorem dX2_init_129 : decode cX2_init 129 = .ok (.putfield 41, 3) := by decide +kernel
theorem dX2_init_132 : decode cX2_init 132 = .ok (.aload_n 0, 1) := by decide +kernel
theorem dX2_init_133 : decode cX2_init 133 = .ok (.bipush 8, 2) := by decide +kernel
theorem dX2_init_135 : decode cX2_init 135 = .ok (.newarray .int, 2) := by decide +kernel
theorem dX2_init_137 : decode cX2_init 137 = .ok (.putfield 44, 3) := by decide +kernel
theorem dX2_init_140 : decode cX2_init 140 = .ok (.aload_n 0, 1) := by decide +kernel
theorem dX2_init_141 : decode cX2_init 141 = .ok (.bipush 8, 2) := by decide +kernel
theorem dX2_init_143 : decode cX2_init 143 = .ok (.newarray .int, 2) := by decide +kernel
theorem dX2_init_145 : decode cX2_init 145 = .ok (.putfield 47, 3) := by decide +kernel
theorem dX2_init_148 : decode cX2_init 148 = .ok (.return_, 1) := by decide +kernel
theorem dX2_strengthOf_0 : decode cX2_strengthOf 0 = .ok (.iload_n 1, 1) := by decide +kernel
theorem dX2_strengthOf_1 : decode cX2_strengthOf 1 = .ok (.iload_n 1, 1) := by decide +kernel
theorem dX2_strengthOf_2 : decode cX2_strengthOf 2 = .ok (.imul, 1) := by decide +kernel
theorem dX2_strengthOf_3 : decode cX2_strengthOf 3 = .ok (.bipush 100, 2) := by decide +kernel
theorem dX2_strengthOf_5 : decode cX2_strengthOf 5 = .ok (.iconst 2, 1) := by decide +kernel
theorem dX2_strengthOf_6 : decode cX2_strengthOf 6 = .ok (.aload_n 0, 1) := by decide +kernel
theorem dX2_strengthOf_7 : decode cX2_strengthOf 7 = .ok (.getfield 15, 3) := by decide +kernel
theorem dX2_strengthOf_10 : decode cX2_strengthOf 10 = .ok (.iconst 0, 1) := by decide +kernel
theorem dX2_strengthOf_11 : decode cX2_strengthOf 11 = .ok (.iaload, 1) := by decide +kernel
theorem dX2_strengthOf_12 : decode cX2_strengthOf 12 = .ok (.imul, 1) := by decide +kernel
theorem dX2_strengthOf_13 : decode cX2_strengthOf 13 = .ok (.isub, 1) := by decide +kernel
theorem dX2_strengthOf_14 : decode cX2_strengthOf 14 = .ok (.imul, 1) := by decide +kernel
theorem dX2_strengthOf_15 : decode cX2_strengthOf 15 = .ok (.bipush 100, 2) := by decide +kernel
theorem dX2_strengthOf_17 : decode cX2_strengthOf 17 = .ok (.idiv, 1) := by decide +kernel
theorem dX2_strengthOf_18 : decode cX2_strengthOf 18 = .ok (.ireturn, 1) := by decide +kernel
theorem dX2_levelAt_0 : decode cX2_levelAt 0 = .ok (.aload_n 0, 1) := by decide +kernel
theorem dX2_levelAt_1 : decode cX2_levelAt 1 = .ok (.getfield 15, 3) := by decide +kernel
theorem dX2_levelAt_4 : decode cX2_levelAt 4 = .ok (.iconst 2, 1) := by decide +kernel
theorem dX2_levelAt_5 : decode cX2_levelAt 5 = .ok (.iaload, 1) := by decide +kernel
theorem dX2_levelAt_6 : decode cX2_levelAt 6 = .ok (.istore_n 2, 1) := by decide +kernel
theorem dX2_levelAt_7 : decode cX2_levelAt 7 = .ok (.aload_n 0, 1) := by decide +kernel
theorem dX2_levelAt_8 : decode cX2_levelAt 8 = .ok (.getfield 22, 3) := by decide +kernel
theorem dX2_levelAt_11 : decode cX2_levelAt 11 = .ok (.ifCond .eq 8, 3) := by decide +kernel
theorem dX2_levelAt_14 : decode cX2_levelAt 14 = .ok (.iload_n 2, 1) := by decide +kernel
theorem dX2_levelAt_15 : decode cX2_levelAt 15 = .ok (.iconst 1, 1) := by decide +kernel
theorem dX2_levelAt_16 : decode cX2_levelAt 16 = .ok (.if_icmp .ge 5, 3) := by decide +kernel
theorem dX2_levelAt_19 : decode cX2_levelAt 19 = .ok (.iconst 0, 1) := by decide +kernel
theorem dX2_levelAt_20 : decode cX2_levelAt 20 = .ok (.ireturn, 1) := by decide +kernel
theorem dX2_levelAt_21 : decode cX2_levelAt 21 = .ok (.iload_n 1, 1) := by decide +kernel
theorem dX2_levelAt_22 : decode cX2_levelAt 22 = .ok (.aload_n 0, 1) := by decide +kernel
theorem dX2_levelAt_23 : decode cX2_levelAt 23 = .ok (.getfield 26, 3) := by decide +kernel
theorem dX2_levelAt_26 : decode cX2_levelAt 26 = .ok (.isub, 1) := by decide +kernel
theorem dX2_levelAt_27 : decode cX2_levelAt 27 = .ok (.iload_n 2, 1) := by decide +kernel
theorem dX2_levelAt_28 : decode cX2_levelAt 28 = .ok (.idiv, 1) := by decide +kernel
theorem dX2_levelAt_29 : decode cX2_levelAt 29 = .ok (.istore_n 3, 1) := by decide +kernel
theorem dX2_levelAt_30 : decode cX2_levelAt 30 = .ok (.iload_n 3, 1) := by decide +kernel
theorem dX2_levelAt_31 : decode cX2_levelAt 31 = .ok (.iconst 0, 1) := by decide +kernel
theorem dX2_levelAt_32 : decode cX2_levelAt 32 = .ok (.bipush 13, 2) := by decide +kernel
theorem dX2_levelAt_34 : decode cX2_levelAt 34 = .ok (.invokestatic 50, 3) := by decide +kernel
theorem dX2_levelAt_37 : decode cX2_levelAt 37 = .ok (.ifCond .eq 7, 3) := by decide +kernel
theorem dX2_levelAt_40 : decode cX2_levelAt 40 = .ok (.iconst 0, 1) := by decide +kernel
theorem dX2_levelAt_41 : decode cX2_levelAt 41 = .ok (.goto 9, 3) := by decide +kernel
theorem dX2_levelAt_44 : decode cX2_levelAt 44 = .ok (.aload_n 0, 1) := by decide +kernel
theorem dX2_levelAt_45 : decode cX2_levelAt 45 = .ok (.getfield 29, 3) := by decide +kernel
theorem dX2_levelAt_48 : decode cX2_levelAt 48 = .ok (.iload_n 3, 1) := by decide +kernel
theorem dX2_levelAt_49 : decode cX2_levelAt 49 = .ok (.ishr, 1) := by decide +kernel
theorem dX2_levelAt_50 : decode cX2_levelAt 50 = .ok (.ireturn, 1) := by decide +kernel
theorem dX2_fateOf_0 : decode cX2_fateOf 0 = .ok (.aload_n 0, 1) := by decide +kernel
theorem dX2_fateOf_1 : decode cX2_fateOf 1 = .ok (.getfield 32, 3) := by decide +kernel
theorem dX2_fateOf_4 : decode cX2_fateOf 4 = .ok (.ifCond .eq 20, 3) := by decide +kernel
theorem dX2_fateOf_7 : decode cX2_fateOf 7 = .ok (.iload_n 1, 1) := by decide +kernel
theorem dX2_fateOf_8 : decode cX2_fateOf 8 = .ok (.aload_n 0, 1) := by decide +kernel
theorem dX2_fateOf_9 : decode cX2_fateOf 9 = .ok (.getfield 26, 3) := by decide +kernel
theorem dX2_fateOf_12 : decode cX2_fateOf 12 = .ok (.isub, 1) := by decide +kernel
theorem dX2_fateOf_13 : decode cX2_fateOf 13 = .ok (.aload_n 0, 1) := by decide +kernel
theorem dX2_fateOf_14 : decode cX2_fateOf 14 = .ok (.getfield 15, 3) := by decide +kernel
theorem dX2_fateOf_17 : decode cX2_fateOf 17 = .ok (.iconst 1, 1) := by decide +kernel
theorem dX2_fateOf_18 : decode cX2_fateOf 18 = .ok (.iaload, 1) := by decide +kernel
theorem dX2_fateOf_19 : decode cX2_fateOf 19 = .ok (.if_icmp .ge 5, 3) := by decide +kernel
theorem dX2_fateOf_22 : decode cX2_fateOf 22 = .ok (.iconst 1, 1) := by decide +kernel
theorem dX2_fateOf_23 : decode cX2_fateOf 23 = .ok (.ireturn, 1) := by decide +kernel
theorem dX2_fateOf_24 : decode cX2_fateOf 24 = .ok (.iload_n 2, 1) := by decide +kernel
theorem dX2_fateOf_25 : decode cX2_fateOf 25 = .ok (.aload_n 0, 1) := by decide +kernel
theorem dX2_fateOf_26 : decode cX2_fateOf 26 = .ok (.getfield 15, 3) := by decide +kernel
theorem dX2_fateOf_29 : decode cX2_fateOf 29 = .ok (.iconst 3, 1) := by decide +kernel
theorem dX2_fateOf_30 : decode cX2_fateOf 30 = .ok (.iaload, 1) := by decide +kernel
theorem dX2_fateOf_31 : decode cX2_fateOf 31 = .ok (.if_icmp .ge 5, 3) := by decide +kernel
theorem dX2_fateOf_34 : decode cX2_fateOf 34 = .ok (.iconst 3, 1) := by decide +kernel
theorem dX2_fateOf_35 : decode cX2_fateOf 35 = .ok (.ireturn, 1) := by decide +kernel
theorem dX2_fateOf_36 : decode cX2_fateOf 36 = .ok (.aload_n 0, 1) := by decide +kernel
theorem dX2_fateOf_37 : decode cX2_fateOf 37 = .ok (.iload_n 1, 1) := by decide +kernel
theorem dX2_fateOf_38 : decode cX2_fateOf 38 = .ok (.invokevirtual 54, 3) := by decide +kernel
theorem dX2_fateOf_41 : decode cX2_fateOf 41 = .ok (.iload_n 2, 1) := by decide +kernel
theorem dX2_fateOf_42 : decode cX2_fateOf 42 = .ok (.if_icmp .le 7, 3) := by decide +kernel
theorem dX2_fateOf_45 : decode cX2_fateOf 45 = .ok (.iconst 2, 1) := by decide +kernel
theorem dX2_fateOf_46 : decode cX2_fateOf 46 = .ok (.goto 4, 3) := by decide +kernel
theorem dX2_fateOf_49 : decode cX2_fateOf 49 = .ok (.iconst 0, 1) := by decide +kernel
theorem dX2_fateOf_50 : decode cX2_fateOf 50 = .ok (.ireturn, 1) := by decide +kernel
theorem dX2_receive_0 : decode cX2_receive 0 = .ok (.aload_n 0, 1) := by decide +kernel
theorem dX2_receive_1 : decode cX2_receive 1 = .ok (.dup, 1) := by decide +kernel
theorem dX2_receive_2 : decode cX2_receive 2 = .ok (.getfield 9, 3) := by decide +kernel
theorem dX2_receive_5 : decode cX2_receive 5 = .ok (.iload_n 1, 1) := by decide +kernel
theorem dX2_receive_6 : decode cX2_receive 6 = .ok (.iadd, 1) := by decide +kernel
theorem dX2_receive_7 : decode cX2_receive 7 = .ok (.putfield 9, 3) := by decide +kernel
theorem dX2_receive_10 : decode cX2_receive 10 = .ok (.aload_n 0, 1) := by decide +kernel
theorem dX2_receive_11 : decode cX2_receive 11 = .ok (.iload_n 2, 1) := by decide +kernel
theorem dX2_receive_12 : decode cX2_receive 12 = .ok (.invokevirtual 58, 3) := by decide +kernel
theorem dX2_receive_15 : decode cX2_receive 15 = .ok (.istore_n 3, 1) := by decide +kernel
theorem dX2_receive_16 : decode cX2_receive 16 = .ok (.aload_n 0, 1) := by decide +kernel
theorem dX2_receive_17 : decode cX2_receive 17 = .ok (.aload_n 0, 1) := by decide +kernel
theorem dX2_receive_18 : decode cX2_receive 18 = .ok (.getfield 9, 3) := by decide +kernel
theorem dX2_receive_21 : decode cX2_receive 21 = .ok (.iload_n 3, 1) := by decide +kernel
theorem dX2_receive_22 : decode cX2_receive 22 = .ok (.invokevirtual 61, 3) := by decide +kernel
theorem dX2_receive_25 : decode cX2_receive 25 = .ok (.istore 4, 2) := by decide +kernel
theorem dX2_receive_27 : decode cX2_receive 27 = .ok (.iload 4, 2) := by decide +kernel
theorem dX2_receive_29 : decode cX2_receive 29 = .ok (.iconst 1, 1) := by decide +kernel
theorem dX2_receive_30 : decode cX2_receive 30 = .ok (.if_icmp .ne 26, 3) := by decide +kernel
theorem dX2_receive_33 : decode cX2_receive 33 = .ok (.aload_n 0, 1) := by decide +kernel
theorem dX2_receive_34 : decode cX2_receive 34 = .ok (.aload_n 0, 1) := by decide +kernel
theorem dX2_receive_35 : decode cX2_receive 35 = .ok (.getfield 29, 3) := by decide +kernel
theorem dX2_receive_38 : decode cX2_receive 38 = .ok (.iload_n 3, 1) := by decide +kernel
theorem dX2_receive_39 : decode cX2_receive 39 = .ok (.iadd, 1) := by decide +kernel
theorem dX2_receive_40 : decode cX2_receive 40 = .ok (.invokevirtual 65, 3) := by decide +kernel
theorem dX2_receive_43 : decode cX2_receive 43 = .ok (.aload_n 0, 1) := by decide +kernel
theorem dX2_receive_44 : decode cX2_receive 44 = .ok (.dup, 1) := by decide +kernel
theorem dX2_receive_45 : decode cX2_receive 45 = .ok (.getfield 35, 3) := by decide +kernel
theorem dX2_receive_48 : decode cX2_receive 48 = .ok (.iconst 1, 1) := by decide +kernel
theorem dX2_receive_49 : decode cX2_receive 49 = .ok (.iadd, 1) := by decide +kernel
theorem dX2_receive_50 : decode cX2_receive 50 = .ok (.putfield 35, 3) := by decide +kernel
theorem dX2_receive_53 : decode cX2_receive 53 = .ok (.iload 4, 2) := by decide +kernel
theorem dX2_receive_55 : decode cX2_receive 55 = .ok (.ireturn, 1) := by decide +kernel
theorem dX2_receive_56 : decode cX2_receive 56 = .ok (.aload_n 0, 1) := by decide +kernel
theorem dX2_receive_57 : decode cX2_receive 57 = .ok (.invokevirtual 69, 3) := by decide +kernel
theorem dX2_receive_60 : decode cX2_receive 60 = .ok (.iload 4, 2) := by decide +kernel
theorem dX2_receive_62 : decode cX2_receive 62 = .ok (.ifCond .ne 19, 3) := by decide +kernel
theorem dX2_receive_65 : decode cX2_receive 65 = .ok (.aload_n 0, 1) := by decide +kernel
theorem dX2_receive_66 : decode cX2_receive 66 = .ok (.iload_n 3, 1) := by decide +kernel
theorem dX2_receive_67 : decode cX2_receive 67 = .ok (.aload_n 0, 1) := by decide +kernel
theorem dX2_receive_68 : decode cX2_receive 68 = .ok (.aload_n 0, 1) := by decide +kernel
theorem dX2_receive_69 : decode cX2_receive 69 = .ok (.getfield 9, 3) := by decide +kernel
theorem dX2_receive_72 : decode cX2_receive 72 = .ok (.invokevirtual 54, 3) := by decide +kernel
theorem dX2_receive_75 : decode cX2_receive 75 = .ok (.iconst 2, 1) := by decide +kernel
theorem dX2_receive_76 : decode cX2_receive 76 = .ok (.idiv, 1) := by decide +kernel
theorem dX2_receive_77 : decode cX2_receive 77 = .ok (.iadd, 1) := by decide +kernel
theorem dX2_receive_78 : decode cX2_receive 78 = .ok (.invokevirtual 72, 3) := by decide +kernel
theorem dX2_receive_81 : decode cX2_receive 81 = .ok (.iload 4, 2) := by decide +kernel
theorem dX2_receive_83 : decode cX2_receive 83 = .ok (.ireturn, 1) := by decide +kernel
theorem dX2_letPass_0 : decode cX2_letPass 0 = .ok (.aload_n 0, 1) := by decide +kernel
theorem dX2_letPass_1 : decode cX2_letPass 1 = .ok (.dup, 1) := by decide +kernel
theorem dX2_letPass_2 : decode cX2_letPass 2 = .ok (.getfield 9, 3) := by decide +kernel
theorem dX2_letPass_5 : decode cX2_letPass 5 = .ok (.iload_n 1, 1) := by decide +kernel
theorem dX2_letPass_6 : decode cX2_letPass 6 = .ok (.iadd, 1) := by decide +kernel
theorem dX2_letPass_7 : decode cX2_letPass 7 = .ok (.putfield 9, 3) := by decide +kernel
theorem dX2_letPass_10 : decode cX2_letPass 10 = .ok (.aload_n 0, 1) := by decide +kernel
theorem dX2_letPass_11 : decode cX2_letPass 11 = .ok (.getfield 32, 3) := by decide +kernel
theorem dX2_letPass_14 : decode cX2_letPass 14 = .ok (.ifCond .eq 25, 3) := by decide +kernel
theorem dX2_letPass_17 : decode cX2_letPass 17 = .ok (.aload_n 0, 1) := by decide +kernel
theorem dX2_letPass_18 : decode cX2_letPass 18 = .ok (.getfield 9, 3) := by decide +kernel
theorem dX2_letPass_21 : decode cX2_letPass 21 = .ok (.aload_n 0, 1) := by decide +kernel
theorem dX2_letPass_22 : decode cX2_letPass 22 = .ok (.getfield 26, 3) := by decide +kernel
theorem dX2_letPass_25 : decode cX2_letPass 25 = .ok (.isub, 1) := by decide +kernel
theorem dX2_letPass_26 : decode cX2_letPass 26 = .ok (.aload_n 0, 1) := by decide +kernel
theorem dX2_letPass_27 : decode cX2_letPass 27 = .ok (.getfield 15, 3) := by decide +kernel
theorem dX2_letPass_30 : decode cX2_letPass 30 = .ok (.iconst 1, 1) := by decide +kernel
theorem dX2_letPass_31 : decode cX2_letPass 31 = .ok (.iaload, 1) := by decide +kernel
theorem dX2_letPass_32 : decode cX2_letPass 32 = .ok (.if_icmp .lt 7, 3) := by decide +kernel
theorem dX2_letPass_35 : decode cX2_letPass 35 = .ok (.aload_n 0, 1) := by decide +kernel
theorem dX2_letPass_36 : decode cX2_letPass 36 = .ok (.invokevirtual 69, 3) := by decide +kernel
theorem dX2_letPass_39 : decode cX2_letPass 39 = .ok (.return_, 1) := by decide +kernel
theorem dX2_openPulse_0 : decode cX2_openPulse 0 = .ok (.aload_n 0, 1) := by decide +kernel
theorem dX2_openPulse_1 : decode cX2_openPulse 1 = .ok (.iconst 1, 1) := by decide +kernel
theorem dX2_openPulse_2 : decode cX2_openPulse 2 = .ok (.putfield 22, 3) := by decide +kernel
theorem dX2_openPulse_5 : decode cX2_openPulse 5 = .ok (.aload_n 0, 1) := by decide +kernel
theorem dX2_openPulse_6 : decode cX2_openPulse 6 = .ok (.aload_n 0, 1) := by decide +kernel
theorem dX2_openPulse_7 : decode cX2_openPulse 7 = .ok (.getfield 9, 3) := by decide +kernel
theorem dX2_openPulse_10 : decode cX2_openPulse 10 = .ok (.putfield 26, 3) := by decide +kernel
theorem dX2_openPulse_13 : decode cX2_openPulse 13 = .ok (.aload_n 0, 1) := by decide +kernel
theorem dX2_openPulse_14 : decode cX2_openPulse 14 = .ok (.iconst 1, 1) := by decide +kernel
theorem dX2_openPulse_15 : decode cX2_openPulse 15 = .ok (.putfield 32, 3) := by decide +kernel
theorem dX2_openPulse_18 : decode cX2_openPulse 18 = .ok (.aload_n 0, 1) := by decide +kernel
theorem dX2_openPulse_19 : decode cX2_openPulse 19 = .ok (.iconst 1, 1) := by decide +kernel
theorem dX2_openPulse_20 : decode cX2_openPulse 20 = .ok (.putfield 35, 3) := by decide +kernel
theorem dX2_openPulse_23 : decode cX2_openPulse 23 = .ok (.aload_n 0, 1) := by decide +kernel
theorem dX2_openPulse_24 : decode cX2_openPulse 24 = .ok (.iconst 0, 1) := by decide +kernel
theorem dX2_openPulse_25 : decode cX2_openPulse 25 = .ok (.putfield 38, 3) := by decide +kernel
theorem dX2_openPulse_28 : decode cX2_openPulse 28 = .ok (.aload_n 0, 1) := by decide +kernel
theorem dX2_openPulse_29 : decode cX2_openPulse 29 = .ok (.iload_n 1, 1) := by decide +kernel
theorem dX2_openPulse_30 : decode cX2_openPulse 30 = .ok (.invokevirtual 65, 3) := by decide +kernel
theorem dX2_openPulse_33 : decode cX2_openPulse 33 = .ok (.return_, 1) := by decide +kernel
theorem dX2_strike_0 : decode cX2_strike 0 = .ok (.iload_n 1, 1) := by decide +kernel
theorem dX2_strike_1 : decode cX2_strike 1 = .ok (.aload_n 0, 1) := by decide +kernel
theorem dX2_strike_2 : decode cX2_strike 2 = .ok (.getfield 15, 3) := by decide +kernel
theorem dX2_strike_5 : decode cX2_strike 5 = .ok (.iconst 4, 1) := by decide +kernel
theorem dX2_strike_6 : decode cX2_strike 6 = .ok (.iaload, 1) := by decide +kernel
theorem dX2_strike_7 : decode cX2_strike 7 = .ok (.if_icmp .le 8, 3) := by decide +kernel
theorem dX2_strike_10 : decode cX2_strike 10 = .ok (.aload_n 0, 1) := by decide +kernel
theorem dX2_strike_11 : decode cX2_strike 11 = .ok (.iconst 1, 1) := by decide +kernel
theorem dX2_strike_12 : decode cX2_strike 12 = .ok (.putfield 38, 3) := by decide +kernel
theorem dX2_strike_15 : decode cX2_strike 15 = .ok (.aload_n 0, 1) := by decide +kernel
theorem dX2_strike_16 : decode cX2_strike 16 = .ok (.iload_n 1, 1) := by decide +kernel
theorem dX2_strike_17 : decode cX2_strike 17 = .ok (.aload_n 0, 1) := by decide +kernel
theorem dX2_strike_18 : decode cX2_strike 18 = .ok (.getfield 15, 3) := by decide +kernel
theorem dX2_strike_21 : decode cX2_strike 21 = .ok (.iconst 4, 1) := by decide +kernel
theorem dX2_strike_22 : decode cX2_strike 22 = .ok (.iaload, 1) := by decide +kernel
theorem dX2_strike_23 : decode cX2_strike 23 = .ok (.invokestatic 75, 3) := by decide +kernel
theorem dX2_strike_26 : decode cX2_strike 26 = .ok (.putfield 29, 3) := by decide +kernel
theorem dX2_strike_29 : decode cX2_strike 29 = .ok (.return_, 1) := by decide +kernel
theorem dX2_closePulse_0 : decode cX2_closePulse 0 = .ok (.aload_n 0, 1) := by decide +kernel
theorem dX2_closePulse_1 : decode cX2_closePulse 1 = .ok (.getfield 32, 3) := by decide +kernel
theorem dX2_closePulse_4 : decode cX2_closePulse 4 = .ok (.ifCond .ne 4, 3) := by decide +kernel
theorem dX2_closePulse_7 : decode cX2_closePulse 7 = .ok (.return_, 1) := by decide +kernel
theorem dX2_closePulse_8 : decode cX2_closePulse 8 = .ok (.aload_n 0, 1) := by decide +kernel
theorem dX2_closePulse_9 : decode cX2_closePulse 9 = .ok (.aload_n 0, 1) := by decide +kernel
theorem dX2_closePulse_10 : decode cX2_closePulse 10 = .ok (.getfield 29, 3) := by decide +kernel
theorem dX2_closePulse_13 : decode cX2_closePulse 13 = .ok (.invokevirtual 80, 3) := by decide +kernel
theorem dX2_closePulse_16 : decode cX2_closePulse 16 = .ok (.istore_n 1, 1) := by decide +kernel
theorem dX2_closePulse_17 : decode cX2_closePulse 17 = .ok (.aload_n 0, 1) := by decide +kernel
theorem dX2_closePulse_18 : decode cX2_closePulse 18 = .ok (.getfield 41, 3) := by decide +kernel
theorem dX2_closePulse_21 : decode cX2_closePulse 21 = .ok (.iload_n 1, 1) := by decide +kernel
theorem dX2_closePulse_22 : decode cX2_closePulse 22 = .ok (.dup2, 1) := by decide +kernel
theorem dX2_closePulse_23 : decode cX2_closePulse 23 = .ok (.iaload, 1) := by decide +kernel
theorem dX2_closePulse_24 : decode cX2_closePulse 24 = .ok (.iconst 1, 1) := by decide +kernel
theorem dX2_closePulse_25 : decode cX2_closePulse 25 = .ok (.iadd, 1) := by decide +kernel
theorem dX2_closePulse_26 : decode cX2_closePulse 26 = .ok (.iastore, 1) := by decide +kernel
theorem dX2_closePulse_27 : decode cX2_closePulse 27 = .ok (.aload_n 0, 1) := by decide +kernel
theorem dX2_closePulse_28 : decode cX2_closePulse 28 = .ok (.getfield 47, 3) := by decide +kernel
theorem dX2_closePulse_31 : decode cX2_closePulse 31 = .ok (.iload_n 1, 1) := by decide +kernel
theorem dX2_closePulse_32 : decode cX2_closePulse 32 = .ok (.dup2, 1) := by decide +kernel
theorem dX2_closePulse_33 : decode cX2_closePulse 33 = .ok (.iaload, 1) := by decide +kernel
theorem dX2_closePulse_34 : decode cX2_closePulse 34 = .ok (.aload_n 0, 1) := by decide +kernel
theorem dX2_closePulse_35 : decode cX2_closePulse 35 = .ok (.getfield 35, 3) := by decide +kernel
theorem dX2_closePulse_38 : decode cX2_closePulse 38 = .ok (.iadd, 1) := by decide +kernel
theorem dX2_closePulse_39 : decode cX2_closePulse 39 = .ok (.iastore, 1) := by decide +kernel
theorem dX2_closePulse_40 : decode cX2_closePulse 40 = .ok (.aload_n 0, 1) := by decide +kernel
theorem dX2_closePulse_41 : decode cX2_closePulse 41 = .ok (.getfield 38, 3) := by decide +kernel
theorem dX2_closePulse_44 : decode cX2_closePulse 44 = .ok (.ifCond .eq 13, 3) := by decide +kernel
theorem dX2_closePulse_47 : decode cX2_closePulse 47 = .ok (.aload_n 0, 1) := by decide +kernel
theorem dX2_closePulse_48 : decode cX2_closePulse 48 = .ok (.getfield 44, 3) := by decide +kernel
theorem dX2_closePulse_51 : decode cX2_closePulse 51 = .ok (.iload_n 1, 1) := by decide +kernel
theorem dX2_closePulse_52 : decode cX2_closePulse 52 = .ok (.dup2, 1) := by decide +kernel
theorem dX2_closePulse_53 : decode cX2_closePulse 53 = .ok (.iaload, 1) := by decide +kernel
theorem dX2_closePulse_54 : decode cX2_closePulse 54 = .ok (.iconst 1, 1) := by decide +kernel
theorem dX2_closePulse_55 : decode cX2_closePulse 55 = .ok (.iadd, 1) := by decide +kernel
theorem dX2_closePulse_56 : decode cX2_closePulse 56 = .ok (.iastore, 1) := by decide +kernel
theorem dX2_closePulse_57 : decode cX2_closePulse 57 = .ok (.aload_n 0, 1) := by decide +kernel
theorem dX2_closePulse_58 : decode cX2_closePulse 58 = .ok (.iconst 0, 1) := by decide +kernel
theorem dX2_closePulse_59 : decode cX2_closePulse 59 = .ok (.putfield 32, 3) := by decide +kernel
theorem dX2_closePulse_62 : decode cX2_closePulse 62 = .ok (.return_, 1) := by decide +kernel
theorem dX2_binOf_0 : decode cX2_binOf 0 = .ok (.bipush 7, 2) := by decide +kernel
theorem dX2_binOf_2 : decode cX2_binOf 2 = .ok (.istore_n 2, 1) := by decide +kernel
theorem dX2_binOf_3 : decode cX2_binOf 3 = .ok (.iload_n 2, 1) := by decide +kernel
theorem dX2_binOf_4 : decode cX2_binOf 4 = .ok (.ifCond .le 21, 3) := by decide +kernel
theorem dX2_binOf_7 : decode cX2_binOf 7 = .ok (.aload_n 0, 1) := by decide +kernel
theorem dX2_binOf_8 : decode cX2_binOf 8 = .ok (.getfield 19, 3) := by decide +kernel
theorem dX2_binOf_11 : decode cX2_binOf 11 = .ok (.iload_n 2, 1) := by decide +kernel
theorem dX2_binOf_12 : decode cX2_binOf 12 = .ok (.iaload, 1) := by decide +kernel
theorem dX2_binOf_13 : decode cX2_binOf 13 = .ok (.iload_n 1, 1) := by decide +kernel
theorem dX2_binOf_14 : decode cX2_binOf 14 = .ok (.if_icmp .gt 5, 3) := by decide +kernel
theorem dX2_binOf_17 : decode cX2_binOf 17 = .ok (.iload_n 2, 1) := by decide +kernel
theorem dX2_binOf_18 : decode cX2_binOf 18 = .ok (.ireturn, 1) := by decide +kernel
theorem dX2_binOf_19 : decode cX2_binOf 19 = .ok (.iinc 2 (-1), 3) := by decide +kernel
theorem dX2_binOf_22 : decode cX2_binOf 22 = .ok (.goto (-19), 3) := by decide +kernel
theorem dX2_binOf_25 : decode cX2_binOf 25 = .ok (.iconst 0, 1) := by decide +kernel
theorem dX2_binOf_26 : decode cX2_binOf 26 = .ok (.ireturn, 1) := by decide +kernel
theorem dX2_lowerEnd_0 : decode cX2_lowerEnd 0 = .ok (.aload_n 0, 1) := by decide +kernel
theorem dX2_lowerEnd_1 : decode cX2_lowerEnd 1 = .ok (.getfield 19, 3) := by decide +kernel
theorem dX2_lowerEnd_4 : decode cX2_lowerEnd 4 = .ok (.iload_n 1, 1) := by decide +kernel
theorem dX2_lowerEnd_5 : decode cX2_lowerEnd 5 = .ok (.iaload, 1) := by decide +kernel
theorem dX2_lowerEnd_6 : decode cX2_lowerEnd 6 = .ok (.ireturn, 1) := by decide +kernel
theorem dX2_upperEnd_0 : decode cX2_upperEnd 0 = .ok (.iload_n 1, 1) := by decide +kernel
theorem dX2_upperEnd_1 : decode cX2_upperEnd 1 = .ok (.bipush 7, 2) := by decide +kernel
theorem dX2_upperEnd_3 : decode cX2_upperEnd 3 = .ok (.if_icmp .ge 16, 3) := by decide +kernel
theorem dX2_upperEnd_6 : decode cX2_upperEnd 6 = .ok (.aload_n 0, 1) := by decide +kernel
theorem dX2_upperEnd_7 : decode cX2_upperEnd 7 = .ok (.getfield 19, 3) := by decide +kernel
theorem dX2_upperEnd_10 : decode cX2_upperEnd 10 = .ok (.iload_n 1, 1) := by decide +kernel
theorem dX2_upperEnd_11 : decode cX2_upperEnd 11 = .ok (.iconst 1, 1) := by decide +kernel
theorem dX2_upperEnd_12 : decode cX2_upperEnd 12 = .ok (.iadd, 1) := by decide +kernel
theorem dX2_upperEnd_13 : decode cX2_upperEnd 13 = .ok (.iaload, 1) := by decide +kernel
theorem dX2_upperEnd_14 : decode cX2_upperEnd 14 = .ok (.iconst 1, 1) := by decide +kernel
theorem dX2_upperEnd_15 : decode cX2_upperEnd 15 = .ok (.isub, 1) := by decide +kernel
theorem dX2_upperEnd_16 : decode cX2_upperEnd 16 = .ok (.goto 6, 3) := by decide +kernel
theorem dX2_upperEnd_19 : decode cX2_upperEnd 19 = .ok (.sipush 5000, 3) := by decide +kernel
theorem dX2_upperEnd_22 : decode cX2_upperEnd 22 = .ok (.ireturn, 1) := by decide +kernel
theorem dX2_wouldAscend_0 : decode cX2_wouldAscend 0 = .ok (.aload_n 0, 1) := by decide +kernel
theorem dX2_wouldAscend_1 : decode cX2_wouldAscend 1 = .ok (.getfield 19, 3) := by decide +kernel
theorem dX2_wouldAscend_4 : decode cX2_wouldAscend 4 = .ok (.iload_n 1, 1) := by decide +kernel
theorem dX2_wouldAscend_5 : decode cX2_wouldAscend 5 = .ok (.iconst 1, 1) := by decide +kernel
theorem dX2_wouldAscend_6 : decode cX2_wouldAscend 6 = .ok (.isub, 1) := by decide +kernel
theorem dX2_wouldAscend_7 : decode cX2_wouldAscend 7 = .ok (.iaload, 1) := by decide +kernel
theorem dX2_wouldAscend_8 : decode cX2_wouldAscend 8 = .ok (.iload_n 2, 1) := by decide +kernel
theorem dX2_wouldAscend_9 : decode cX2_wouldAscend 9 = .ok (.if_icmp .ge 25, 3) := by decide +kernel
theorem dX2_wouldAscend_12 : decode cX2_wouldAscend 12 = .ok (.iload_n 1, 1) := by decide +kernel
theorem dX2_wouldAscend_13 : decode cX2_wouldAscend 13 = .ok (.bipush 7, 2) := by decide +kernel
theorem dX2_wouldAscend_15 : decode cX2_wouldAscend 15 = .ok (.if_icmp .eq 15, 3) := by decide +kernel
theorem dX2_wouldAscend_18 : decode cX2_wouldAscend 18 = .ok (.iload_n 2, 1) := by decide +kernel
theorem dX2_wouldAscend_19 : decode cX2_wouldAscend 19 = .ok (.aload_n 0, 1) := by decide +kernel
theorem dX2_wouldAscend_20 : decode cX2_wouldAscend 20 = .ok (.getfield 19, 3) := by decide +kernel
theorem dX2_wouldAscend_23 : decode cX2_wouldAscend 23 = .ok (.iload_n 1, 1) := by decide +kernel
theorem dX2_wouldAscend_24 : decode cX2_wouldAscend 24 = .ok (.iconst 1, 1) := by decide +kernel
theorem dX2_wouldAscend_25 : decode cX2_wouldAscend 25 = .ok (.iadd, 1) := by decide +kernel
theorem dX2_wouldAscend_26 : decode cX2_wouldAscend 26 = .ok (.iaload, 1) := by decide +kernel
theorem dX2_wouldAscend_27 : decode cX2_wouldAscend 27 = .ok (.if_icmp .ge 7, 3) := by decide +kernel
theorem dX2_wouldAscend_30 : decode cX2_wouldAscend 30 = .ok (.iconst 1, 1) := by decide +kernel
theorem dX2_wouldAscend_31 : decode cX2_wouldAscend 31 = .ok (.goto 4, 3) := by decide +kernel
theorem dX2_wouldAscend_34 : decode cX2_wouldAscend 34 = .ok (.iconst 0, 1) := by decide +kernel
theorem dX2_wouldAscend_35 : decode cX2_wouldAscend 35 = .ok (.ireturn, 1) := by decide +kernel
theorem dX2_emptyBins_0 : decode cX2_emptyBins 0 = .ok (.aload_n 0, 1) := by decide +kernel
theorem dX2_emptyBins_1 : decode cX2_emptyBins 1 = .ok (.getfield 41, 3) := by decide +kernel
theorem dX2_emptyBins_4 : decode cX2_emptyBins 4 = .ok (.invokestatic 83, 3) := by decide +kernel
theorem dX2_emptyBins_7 : decode cX2_emptyBins 7 = .ok (.aload_n 0, 1) := by decide +kernel
theorem dX2_emptyBins_8 : decode cX2_emptyBins 8 = .ok (.getfield 44, 3) := by decide +kernel
theorem dX2_emptyBins_11 : decode cX2_emptyBins 11 = .ok (.invokestatic 83, 3) := by decide +kernel
theorem dX2_emptyBins_14 : decode cX2_emptyBins 14 = .ok (.aload_n 0, 1) := by decide +kernel
theorem dX2_emptyBins_15 : decode cX2_emptyBins 15 = .ok (.getfield 47, 3) := by decide +kernel
theorem dX2_emptyBins_18 : decode cX2_emptyBins 18 = .ok (.invokestatic 83, 3) := by decide +kernel
theorem dX2_emptyBins_21 : decode cX2_emptyBins 21 = .ok (.return_, 1) := by decide +kernel
theorem dX2_reckonedRain_0 : decode cX2_reckonedRain 0 = .ok (.lconst 0, 1) := by decide +kernel
theorem dX2_reckonedRain_1 : decode cX2_reckonedRain 1 = .ok (.lstore_n 2, 1) := by decide +kernel
theorem dX2_reckonedRain_2 : decode cX2_reckonedRain 2 = .ok (.iconst 0, 1) := by decide +kernel
theorem dX2_reckonedRain_3 : decode cX2_reckonedRain 3 = .ok (.istore 4, 2) := by decide +kernel
theorem dX2_reckonedRain_5 : decode cX2_reckonedRain 5 = .ok (.iload 4, 2) := by decide +kernel
theorem dX2_reckonedRain_7 : decode cX2_reckonedRain 7 = .ok (.bipush 7, 2) := by decide +kernel
theorem dX2_reckonedRain_9 : decode cX2_reckonedRain 9 = .ok (.if_icmp .gt 34, 3) := by decide +kernel
theorem dX2_reckonedRain_12 : decode cX2_reckonedRain 12 = .ok (.lload_n 2, 1) := by decide +kernel
theorem dX2_reckonedRain_13 : decode cX2_reckonedRain 13 = .ok (.aload_n 0, 1) := by decide +kernel
theorem dX2_reckonedRain_14 : decode cX2_reckonedRain 14 = .ok (.getfield 41, 3) := by decide +kernel
theorem dX2_reckonedRain_17 : decode cX2_reckonedRain 17 = .ok (.iload 4, 2) := by decide +kernel
theorem dX2_reckonedRain_19 : decode cX2_reckonedRain 19 = .ok (.iaload, 1) := by decide +kernel
theorem dX2_reckonedRain_20 : decode cX2_reckonedRain 20 = .ok (.i2l, 1) := by decide +kernel
theorem dX2_reckonedRain_21 : decode cX2_reckonedRain 21 = .ok (.aload_n 0, 1) := by decide +kernel
theorem dX2_reckonedRain_22 : decode cX2_reckonedRain 22 = .ok (.iload 4, 2) := by decide +kernel
theorem dX2_reckonedRain_24 : decode cX2_reckonedRain 24 = .ok (.iload_n 1, 1) := by decide +kernel
theorem dX2_reckonedRain_25 : decode cX2_reckonedRain 25 = .ok (.invokevirtual 87, 3) := by decide +kernel
theorem dX2_reckonedRain_28 : decode cX2_reckonedRain 28 = .ok (.invokestatic 90, 3) := by decide +kernel
theorem dX2_reckonedRain_31 : decode cX2_reckonedRain 31 = .ok (.invokestatic 93, 3) := by decide +kernel
theorem dX2_reckonedRain_34 : decode cX2_reckonedRain 34 = .ok (.lmul, 1) := by decide +kernel
theorem dX2_reckonedRain_35 : decode cX2_reckonedRain 35 = .ok (.ladd, 1) := by decide +kernel
theorem dX2_reckonedRain_36 : decode cX2_reckonedRain 36 = .ok (.lstore_n 2, 1) := by decide +kernel
theorem dX2_reckonedRain_37 : decode cX2_reckonedRain 37 = .ok (.iinc 4 1, 3) := by decide +kernel
theorem dX2_reckonedRain_40 : decode cX2_reckonedRain 40 = .ok (.goto (-35), 3) := by decide +kernel
theorem dX2_reckonedRain_43 : decode cX2_reckonedRain 43 = .ok (.lload_n 2, 1) := by decide +kernel
theorem dX2_reckonedRain_44 : decode cX2_reckonedRain 44 = .ok (.lreturn, 1) := by decide +kernel
theorem dX2_endByLaw_0 : decode cX2_endByLaw 0 = .ok (.iload_n 2, 1) := by decide +kernel
theorem dX2_endByLaw_1 : decode cX2_endByLaw 1 = .ok (.lookupswitch 47 #[(0, 27), (1, 33)], 27) := by decide +kernel
theorem dX2_endByLaw_28 : decode cX2_endByLaw 28 = .ok (.aload_n 0, 1) := by decide +kernel
theorem dX2_endByLaw_29 : decode cX2_endByLaw 29 = .ok (.iload_n 1, 1) := by decide +kernel
theorem dX2_endByLaw_30 : decode cX2_endByLaw 30 = .ok (.invokevirtual 97, 3) := by decide +kernel
theorem dX2_endByLaw_33 : decode cX2_endByLaw 33 = .ok (.ireturn, 1) := by decide +kernel
theorem dX2_endByLaw_34 : decode cX2_endByLaw 34 = .ok (.aload_n 0, 1) := by decide +kernel
theorem dX2_endByLaw_35 : decode cX2_endByLaw 35 = .ok (.iload_n 1, 1) := by decide +kernel
theorem dX2_endByLaw_36 : decode cX2_endByLaw 36 = .ok (.invokevirtual 97, 3) := by decide +kernel
theorem dX2_endByLaw_39 : decode cX2_endByLaw 39 = .ok (.aload_n 0, 1) := by decide +kernel
theorem dX2_endByLaw_40 : decode cX2_endByLaw 40 = .ok (.iload_n 1, 1) := by decide +kernel
theorem dX2_endByLaw_41 : decode cX2_endByLaw 41 = .ok (.invokevirtual 100, 3) := by decide +kernel
theorem dX2_endByLaw_44 : decode cX2_endByLaw 44 = .ok (.iadd, 1) := by decide +kernel
theorem dX2_endByLaw_45 : decode cX2_endByLaw 45 = .ok (.iconst 2, 1) := by decide +kernel
theorem dX2_endByLaw_46 : decode cX2_endByLaw 46 = .ok (.idiv, 1) := by decide +kernel
theorem dX2_endByLaw_47 : decode cX2_endByLaw 47 = .ok (.ireturn, 1) := by decide +kernel
theorem dX2_endByLaw_48 : decode cX2_endByLaw 48 = .ok (.aload_n 0, 1) := by decide +kernel
theorem dX2_endByLaw_49 : decode cX2_endByLaw 49 = .ok (.iload_n 1, 1) := by decide +kernel
theorem dX2_endByLaw_50 : decode cX2_endByLaw 50 = .ok (.invokevirtual 100, 3) := by decide +kernel
theorem dX2_endByLaw_53 : decode cX2_endByLaw 53 = .ok (.ireturn, 1) := by decide +kernel
theorem dX2_copySetupFrom_0 : decode cX2_copySetupFrom 0 = .ok (.aload_n 1, 1) := by decide +kernel
theorem dX2_copySetupFrom_1 : decode cX2_copySetupFrom 1 = .ok (.getfield 15, 3) := by decide +kernel
theorem dX2_copySetupFrom_4 : decode cX2_copySetupFrom 4 = .ok (.aload_n 0, 1) := by decide +kernel
theorem dX2_copySetupFrom_5 : decode cX2_copySetupFrom 5 = .ok (.getfield 15, 3) := by decide +kernel
theorem dX2_copySetupFrom_8 : decode cX2_copySetupFrom 8 = .ok (.invokestatic 103, 3) := by decide +kernel
theorem dX2_copySetupFrom_11 : decode cX2_copySetupFrom 11 = .ok (.aload_n 1, 1) := by decide +kernel
theorem dX2_copySetupFrom_12 : decode cX2_copySetupFrom 12 = .ok (.getfield 19, 3) := by decide +kernel
theorem dX2_copySetupFrom_15 : decode cX2_copySetupFrom 15 = .ok (.aload_n 0, 1) := by decide +kernel
theorem dX2_copySetupFrom_16 : decode cX2_copySetupFrom 16 = .ok (.getfield 19, 3) := by decide +kernel
theorem dX2_copySetupFrom_19 : decode cX2_copySetupFrom 19 = .ok (.invokestatic 103, 3) := by decide +kernel
theorem dX2_copySetupFrom_22 : decode cX2_copySetupFrom 22 = .ok (.return_, 1) := by decide +kernel
theorem dX2_copyFrom_0 : decode cX2_copyFrom 0 = .ok (.aload_n 0, 1) := by decide +kernel
theorem dX2_copyFrom_1 : decode cX2_copyFrom 1 = .ok (.aload_n 1, 1) := by decide +kernel
theorem dX2_copyFrom_2 : decode cX2_copyFrom 2 = .ok (.invokevirtual 107, 3) := by decide +kernel
theorem dX2_copyFrom_5 : decode cX2_copyFrom 5 = .ok (.aload_n 0, 1) := by decide +kernel
theorem dX2_copyFrom_6 : decode cX2_copyFrom 6 = .ok (.aload_n 1, 1) := by decide +kernel
theorem dX2_copyFrom_7 : decode cX2_copyFrom 7 = .ok (.getfield 9, 3) := by decide +kernel
theorem dX2_copyFrom_10 : decode cX2_copyFrom 10 = .ok (.putfield 9, 3) := by decide +kernel
theorem dX2_copyFrom_13 : decode cX2_copyFrom 13 = .ok (.aload_n 0, 1) := by decide +kernel
theorem dX2_copyFrom_14 : decode cX2_copyFrom 14 = .ok (.aload_n 1, 1) := by decide +kernel
theorem dX2_copyFrom_15 : decode cX2_copyFrom 15 = .ok (.getfield 22, 3) := by decide +kernel
theorem dX2_copyFrom_18 : decode cX2_copyFrom 18 = .ok (.putfield 22, 3) := by decide +kernel
theorem dX2_copyFrom_21 : decode cX2_copyFrom 21 = .ok (.aload_n 0, 1) := by decide +kernel
theorem dX2_copyFrom_22 : decode cX2_copyFrom 22 = .ok (.aload_n 1, 1) := by decide +kernel
theorem dX2_copyFrom_23 : decode cX2_copyFrom 23 = .ok (.getfield 26, 3) := by decide +kernel
theorem dX2_copyFrom_26 : decode cX2_copyFrom 26 = .ok (.putfield 26, 3) := by decide +kernel
theorem dX2_copyFrom_29 : decode cX2_copyFrom 29 = .ok (.aload_n 0, 1) := by decide +kernel
theorem dX2_copyFrom_30 : decode cX2_copyFrom 30 = .ok (.aload_n 1, 1) := by decide +kernel
theorem dX2_copyFrom_31 : decode cX2_copyFrom 31 = .ok (.getfield 29, 3) := by decide +kernel
theorem dX2_copyFrom_34 : decode cX2_copyFrom 34 = .ok (.putfield 29, 3) := by decide +kernel
theorem dX2_copyFrom_37 : decode cX2_copyFrom 37 = .ok (.aload_n 0, 1) := by decide +kernel
theorem dX2_copyFrom_38 : decode cX2_copyFrom 38 = .ok (.aload_n 1, 1) := by decide +kernel
theorem dX2_copyFrom_39 : decode cX2_copyFrom 39 = .ok (.getfield 32, 3) := by decide +kernel
theorem dX2_copyFrom_42 : decode cX2_copyFrom 42 = .ok (.putfield 32, 3) := by decide +kernel
theorem dX2_copyFrom_45 : decode cX2_copyFrom 45 = .ok (.aload_n 0, 1) := by decide +kernel
theorem dX2_copyFrom_46 : decode cX2_copyFrom 46 = .ok (.aload_n 1, 1) := by decide +kernel
theorem dX2_copyFrom_47 : decode cX2_copyFrom 47 = .ok (.getfield 35, 3) := by decide +kernel
theorem dX2_copyFrom_50 : decode cX2_copyFrom 50 = .ok (.putfield 35, 3) := by decide +kernel
theorem dX2_copyFrom_53 : decode cX2_copyFrom 53 = .ok (.aload_n 0, 1) := by decide +kernel
theorem dX2_copyFrom_54 : decode cX2_copyFrom 54 = .ok (.aload_n 1, 1) := by decide +kernel
theorem dX2_copyFrom_55 : decode cX2_copyFrom 55 = .ok (.getfield 38, 3) := by decide +kernel
theorem dX2_copyFrom_58 : decode cX2_copyFrom 58 = .ok (.putfield 38, 3) := by decide +kernel
theorem dX2_copyFrom_61 : decode cX2_copyFrom 61 = .ok (.aload_n 1, 1) := by decide +kernel
theorem dX2_copyFrom_62 : decode cX2_copyFrom 62 = .ok (.getfield 41, 3) := by decide +kernel
theorem dX2_copyFrom_65 : decode cX2_copyFrom 65 = .ok (.aload_n 0, 1) := by decide +kernel
theorem dX2_copyFrom_66 : decode cX2_copyFrom 66 = .ok (.getfield 41, 3) := by decide +kernel
theorem dX2_copyFrom_69 : decode cX2_copyFrom 69 = .ok (.invokestatic 103, 3) := by decide +kernel
theorem dX2_copyFrom_72 : decode cX2_copyFrom 72 = .ok (.aload_n 1, 1) := by decide +kernel
theorem dX2_copyFrom_73 : decode cX2_copyFrom 73 = .ok (.getfield 44, 3) := by decide +kernel
theorem dX2_copyFrom_76 : decode cX2_copyFrom 76 = .ok (.aload_n 0, 1) := by decide +kernel
theorem dX2_copyFrom_77 : decode cX2_copyFrom 77 = .ok (.getfield 44, 3) := by decide +kernel
theorem dX2_copyFrom_80 : decode cX2_copyFrom 80 = .ok (.invokestatic 103, 3) := by decide +kernel
theorem dX2_copyFrom_83 : decode cX2_copyFrom 83 = .ok (.aload_n 1, 1) := by decide +kernel
theorem dX2_copyFrom_84 : decode cX2_copyFrom 84 = .ok (.getfield 47, 3) := by decide +kernel
theorem dX2_copyFrom_87 : decode cX2_copyFrom 87 = .ok (.aload_n 0, 1) := by decide +kernel
theorem dX2_copyFrom_88 : decode cX2_copyFrom 88 = .ok (.getfield 47, 3) := by decide +kernel
theorem dX2_copyFrom_91 : decode cX2_copyFrom 91 = .ok (.invokestatic 103, 3) := by decide +kernel
theorem dX2_copyFrom_94 : decode cX2_copyFrom 94 = .ok (.return_, 1) := by decide +kernel
theorem dX3_init_0 : decode cX3_init 0 = .ok (.aload_n 0, 1) := by decide +kernel
theorem dX3_init_1 : decode cX3_init 1 = .ok (.invokespecial 1, 3) := by decide +kernel
theorem dX3_init_4 : decode cX3_init 4 = .ok (.aload_n 0, 1) := by decide +kernel
theorem dX3_init_5 : decode cX3_init 5 = .ok (.new 7, 3) := by decide +kernel
theorem dX3_init_8 : decode cX3_init 8 = .ok (.dup, 1) := by decide +kernel
theorem dX3_init_9 : decode cX3_init 9 = .ok (.invokespecial 9, 3) := by decide +kernel
theorem dX3_init_12 : decode cX3_init 12 = .ok (.putfield 10, 3) := by decide +kernel
theorem dX3_init_15 : decode cX3_init 15 = .ok (.aload_n 0, 1) := by decide +kernel
theorem dX3_init_16 : decode cX3_init 16 = .ok (.new 16, 3) := by decide +kernel
theorem dX3_init_19 : decode cX3_init 19 = .ok (.dup, 1) := by decide +kernel
theorem dX3_init_20 : decode cX3_init 20 = .ok (.invokespecial 18, 3) := by decide +kernel
theorem dX3_init_23 : decode cX3_init 23 = .ok (.putfield 19, 3) := by decide +kernel
theorem dX3_init_26 : decode cX3_init 26 = .ok (.return_, 1) := by decide +kernel
theorem dX3_letFall_0 : decode cX3_letFall 0 = .ok (.aload_n 0, 1) := by decide +kernel
theorem dX3_letFall_1 : decode cX3_letFall 1 = .ok (.getfield 10, 3) := by decide +kernel
theorem dX3_letFall_4 : decode cX3_letFall 4 = .ok (.iload_n 1, 1) := by decide +kernel
theorem dX3_letFall_5 : decode cX3_letFall 5 = .ok (.iload_n 2, 1) := by decide +kernel
theorem dX3_letFall_6 : decode cX3_letFall 6 = .ok (.invokevirtual 23, 3) := by decide +kernel
theorem dX3_letFall_9 : decode cX3_letFall 9 = .ok (.istore_n 3, 1) := by decide +kernel
theorem dX3_letFall_10 : decode cX3_letFall 10 = .ok (.aload_n 0, 1) := by decide +kernel
theorem dX3_letFall_11 : decode cX3_letFall 11 = .ok (.getfield 19, 3) := by decide +kernel
theorem dX3_letFall_14 : decode cX3_letFall 14 = .ok (.aload_n 0, 1) := by decide +kernel
theorem dX3_letFall_15 : decode cX3_letFall 15 = .ok (.getfield 10, 3) := by decide +kernel
theorem dX3_letFall_18 : decode cX3_letFall 18 = .ok (.getfield 27, 3) := by decide +kernel
theorem dX3_letFall_21 : decode cX3_letFall 21 = .ok (.iload_n 2, 1) := by decide +kernel
theorem dX3_letFall_22 : decode cX3_letFall 22 = .ok (.iload_n 3, 1) := by decide +kernel
theorem dX3_letFall_23 : decode cX3_letFall 23 = .ok (.invokevirtual 31, 3) := by decide +kernel
theorem dX3_letFall_26 : decode cX3_letFall 26 = .ok (.iload_n 3, 1) := by decide +kernel
theorem dX3_letFall_27 : decode cX3_letFall 27 = .ok (.ireturn, 1) := by decide +kernel
theorem dX3_copyFrom_0 : decode cX3_copyFrom 0 = .ok (.aload_n 0, 1) := by decide +kernel
theorem dX3_copyFrom_1 : decode cX3_copyFrom 1 = .ok (.getfield 10, 3) := by decide +kernel
theorem dX3_copyFrom_4 : decode cX3_copyFrom 4 = .ok (.aload_n 1, 1) := by decide +kernel
theorem dX3_copyFrom_5 : decode cX3_copyFrom 5 = .ok (.getfield 10, 3) := by decide +kernel
theorem dX3_copyFrom_8 : decode cX3_copyFrom 8 = .ok (.invokevirtual 35, 3) := by decide +kernel
theorem dX3_copyFrom_11 : decode cX3_copyFrom 11 = .ok (.aload_n 0, 1) := by decide +kernel
theorem dX3_copyFrom_12 : decode cX3_copyFrom 12 = .ok (.getfield 19, 3) := by decide +kernel
theorem dX3_copyFrom_15 : decode cX3_copyFrom 15 = .ok (.aload_n 1, 1) := by decide +kernel
theorem dX3_copyFrom_16 : decode cX3_copyFrom 16 = .ok (.getfield 19, 3) := by decide +kernel
theorem dX3_copyFrom_19 : decode cX3_copyFrom 19 = .ok (.invokevirtual 39, 3) := by decide +kernel
theorem dX3_copyFrom_22 : decode cX3_copyFrom 22 = .ok (.return_, 1) := by decide +kernel
theorem dX4_init_0 : decode cX4_init 0 = .ok (.aload_n 0, 1) := by decide +kernel
theorem dX4_init_1 : decode cX4_init 1 = .ok (.invokespecial 3, 3) := by decide +kernel
theorem dX4_init_4 : decode cX4_init 4 = .ok (.aload_n 0, 1) := by decide +kernel
theorem dX4_init_5 : decode cX4_init 5 = .ok (.bipush 100, 2) := by decide +kernel
theorem dX4_init_7 : decode cX4_init 7 = .ok (.newarray .int, 2) := by decide +kernel
theorem dX4_init_9 : decode cX4_init 9 = .ok (.putfield 9, 3) := by decide +kernel
theorem dX4_init_12 : decode cX4_init 12 = .ok (.aload_n 0, 1) := by decide +kernel
theorem dX4_init_13 : decode cX4_init 13 = .ok (.iconst 0, 1) := by decide +kernel
theorem dX4_init_14 : decode cX4_init 14 = .ok (.putfield 15, 3) := by decide +kernel
theorem dX4_init_17 : decode cX4_init 17 = .ok (.return_, 1) := by decide +kernel
theorem dX4_isFull_0 : decode cX4_isFull 0 = .ok (.aload_n 0, 1) := by decide +kernel
theorem dX4_isFull_1 : decode cX4_isFull 1 = .ok (.getfield 15, 3) := by decide +kernel
theorem dX4_isFull_4 : decode cX4_isFull 4 = .ok (.aload_n 0, 1) := by decide +kernel
theorem dX4_isFull_5 : decode cX4_isFull 5 = .ok (.getfield 9, 3) := by decide +kernel
theorem dX4_isFull_8 : decode cX4_isFull 8 = .ok (.arraylength, 1) := by decide +kernel
theorem dX4_isFull_9 : decode cX4_isFull 9 = .ok (.if_icmp .lt 7, 3) := by decide +kernel
theorem dX4_isFull_12 : decode cX4_isFull 12 = .ok (.iconst 1, 1) := by decide +kernel
theorem dX4_isFull_13 : decode cX4_isFull 13 = .ok (.goto 4, 3) := by decide +kernel
theorem dX4_isFull_16 : decode cX4_isFull 16 = .ok (.iconst 0, 1) := by decide +kernel
theorem dX4_isFull_17 : decode cX4_isFull 17 = .ok (.ireturn, 1) := by decide +kernel
theorem dX4_add_0 : decode cX4_add 0 = .ok (.aload_n 0, 1) := by decide +kernel
theorem dX4_add_1 : decode cX4_add 1 = .ok (.invokevirtual 19, 3) := by decide +kernel
theorem dX4_add_4 : decode cX4_add 4 = .ok (.ifCond .ne 23, 3) := by decide +kernel
theorem dX4_add_7 : decode cX4_add 7 = .ok (.aload_n 0, 1) := by decide +kernel
theorem dX4_add_8 : decode cX4_add 8 = .ok (.getfield 9, 3) := by decide +kernel
theorem dX4_add_11 : decode cX4_add 11 = .ok (.aload_n 0, 1) := by decide +kernel
theorem dX4_add_12 : decode cX4_add 12 = .ok (.getfield 15, 3) := by decide +kernel
theorem dX4_add_15 : decode cX4_add 15 = .ok (.iload_n 1, 1) := by decide +kernel
theorem dX4_add_16 : decode cX4_add 16 = .ok (.iastore, 1) := by decide +kernel
theorem dX4_add_17 : decode cX4_add 17 = .ok (.aload_n 0, 1) := by decide +kernel
theorem dX4_add_18 : decode cX4_add 18 = .ok (.dup, 1) := by decide +kernel
theorem dX4_add_19 : decode cX4_add 19 = .ok (.getfield 15, 3) := by decide +kernel
theorem dX4_add_22 : decode cX4_add 22 = .ok (.iconst 1, 1) := by decide +kernel
theorem dX4_add_23 : decode cX4_add 23 = .ok (.iadd, 1) := by decide +kernel
theorem dX4_add_24 : decode cX4_add 24 = .ok (.putfield 15, 3) := by decide +kernel
theorem dX4_add_27 : decode cX4_add 27 = .ok (.aload_n 0, 1) := by decide +kernel
theorem dX4_add_28 : decode cX4_add 28 = .ok (.getfield 15, 3) := by decide +kernel
theorem dX4_add_31 : decode cX4_add 31 = .ok (.ireturn, 1) := by decide +kernel
theorem dX4_wipe_0 : decode cX4_wipe 0 = .ok (.aload_n 0, 1) := by decide +kernel
theorem dX4_wipe_1 : decode cX4_wipe 1 = .ok (.getfield 15, 3) := by decide +kernel
theorem dX4_wipe_4 : decode cX4_wipe 4 = .ok (.istore_n 1, 1) := by decide +kernel
theorem dX4_wipe_5 : decode cX4_wipe 5 = .ok (.aload_n 0, 1) := by decide +kernel
theorem dX4_wipe_6 : decode cX4_wipe 6 = .ok (.iconst 0, 1) := by decide +kernel
theorem dX4_wipe_7 : decode cX4_wipe 7 = .ok (.putfield 15, 3) := by decide +kernel
theorem dX4_wipe_10 : decode cX4_wipe 10 = .ok (.iload_n 1, 1) := by decide +kernel
theorem dX4_wipe_11 : decode cX4_wipe 11 = .ok (.ireturn, 1) := by decide +kernel
theorem dX4_signAt_0 : decode cX4_signAt 0 = .ok (.iload_n 1, 1) := by decide +kernel
theorem dX4_signAt_1 : decode cX4_signAt 1 = .ok (.ifCond .lt 20, 3) := by decide +kernel
theorem dX4_signAt_4 : decode cX4_signAt 4 = .ok (.iload_n 1, 1) := by decide +kernel
theorem dX4_signAt_5 : decode cX4_signAt 5 = .ok (.aload_n 0, 1) := by decide +kernel
theorem dX4_signAt_6 : decode cX4_signAt 6 = .ok (.getfield 15, 3) := by decide +kernel
theorem dX4_signAt_9 : decode cX4_signAt 9 = .ok (.if_icmp .ge 12, 3) := by decide +kernel
theorem dX4_signAt_12 : decode cX4_signAt 12 = .ok (.aload_n 0, 1) := by decide +kernel
theorem dX4_signAt_13 : decode cX4_signAt 13 = .ok (.getfield 9, 3) := by decide +kernel
theorem dX4_signAt_16 : decode cX4_signAt 16 = .ok (.iload_n 1, 1) := by decide +kernel
theorem dX4_signAt_17 : decode cX4_signAt 17 = .ok (.iaload, 1) := by decide +kernel
theorem dX4_signAt_18 : decode cX4_signAt 18 = .ok (.goto 5, 3) := by decide +kernel
theorem dX4_signAt_21 : decode cX4_signAt 21 = .ok (.bipush (-9), 2) := by decide +kernel
theorem dX4_signAt_23 : decode cX4_signAt 23 = .ok (.ireturn, 1) := by decide +kernel
theorem dX4_digitAt_0 : decode cX4_digitAt 0 = .ok (.aload_n 0, 1) := by decide +kernel
theorem dX4_digitAt_1 : decode cX4_digitAt 1 = .ok (.iload_n 1, 1) := by decide +kernel
theorem dX4_digitAt_2 : decode cX4_digitAt 2 = .ok (.invokevirtual 23, 3) := by decide +kernel
theorem dX4_digitAt_5 : decode cX4_digitAt 5 = .ok (.bipush 48, 2) := by decide +kernel
theorem dX4_digitAt_7 : decode cX4_digitAt 7 = .ok (.isub, 1) := by decide +kernel
theorem dX4_digitAt_8 : decode cX4_digitAt 8 = .ok (.ireturn, 1) := by decide +kernel
theorem dX4_numberAt_0 : decode cX4_numberAt 0 = .ok (.aload_n 0, 1) := by decide +kernel
theorem dX4_numberAt_1 : decode cX4_numberAt 1 = .ok (.iload_n 1, 1) := by decide +kernel
theorem dX4_numberAt_2 : decode cX4_numberAt 2 = .ok (.invokevirtual 27, 3) := by decide +kernel
theorem dX4_numberAt_5 : decode cX4_numberAt 5 = .ok (.bipush 10, 2) := by decide +kernel
theorem dX4_numberAt_7 : decode cX4_numberAt 7 = .ok (.imul, 1) := by decide +kernel
theorem dX4_numberAt_8 : decode cX4_numberAt 8 = .ok (.aload_n 0, 1) := by decide +kernel
theorem dX4_numberAt_9 : decode cX4_numberAt 9 = .ok (.iload_n 1, 1) := by decide +kernel
theorem dX4_numberAt_10 : decode cX4_numberAt 10 = .ok (.iconst 1, 1) := by decide +kernel
theorem dX4_numberAt_11 : decode cX4_numberAt 11 = .ok (.iadd, 1) := by decide +kernel
theorem dX4_numberAt_12 : decode cX4_numberAt 12 = .ok (.invokevirtual 27, 3) := by decide +kernel
theorem dX4_numberAt_15 : decode cX4_numberAt 15 = .ok (.iadd, 1) := by decide +kernel
theorem dX4_numberAt_16 : decode cX4_numberAt 16 = .ok (.ireturn, 1) := by decide +kernel
theorem dX4_firstError_0 : decode cX4_firstError 0 = .ok (.aload_n 0, 1) := by decide +kernel
theorem dX4_firstError_1 : decode cX4_firstError 1 = .ok (.iconst 0, 1) := by decide +kernel
theorem dX4_firstError_2 : decode cX4_firstError 2 = .ok (.invokevirtual 23, 3) := by decide +kernel
theorem dX4_firstError_5 : decode cX4_firstError 5 = .ok (.bipush 80, 2) := by decide +kernel
theorem dX4_firstError_7 : decode cX4_firstError 7 = .ok (.if_icmp .eq 5, 3) := by decide +kernel
theorem dX4_firstError_10 : decode cX4_firstError 10 = .ok (.iconst 0, 1) := by decide +kernel
theorem dX4_firstError_11 : decode cX4_firstError 11 = .ok (.ireturn, 1) := by decide +kernel
theorem dX4_firstError_12 : decode cX4_firstError 12 = .ok (.iconst 1, 1) := by decide +kernel
theorem dX4_firstError_13 : decode cX4_firstError 13 = .ok (.istore_n 1, 1) := by decide +kernel
theorem dX4_firstError_14 : decode cX4_firstError 14 = .ok (.iconst 0, 1) := by decide +kernel
theorem dX4_firstError_15 : decode cX4_firstError 15 = .ok (.istore_n 2, 1) := by decide +kernel
theorem dX4_firstError_16 : decode cX4_firstError 16 = .ok (.iload_n 2, 1) := by decide +kernel
theorem dX4_firstError_17 : decode cX4_firstError 17 = .ok (.bipush 100, 2) := by decide +kernel
theorem dX4_firstError_19 : decode cX4_firstError 19 = .ok (.if_icmp .ge 39, 3) := by decide +kernel
theorem dX4_firstError_22 : decode cX4_firstError 22 = .ok (.iload_n 1, 1) := by decide +kernel
theorem dX4_firstError_23 : decode cX4_firstError 23 = .ok (.aload_n 0, 1) := by decide +kernel
theorem dX4_firstError_24 : decode cX4_firstError 24 = .ok (.getfield 15, 3) := by decide +kernel
theorem dX4_firstError_27 : decode cX4_firstError 27 = .ok (.if_icmp .ge 31, 3) := by decide +kernel
theorem dX4_firstError_30 : decode cX4_firstError 30 = .ok (.aload_n 0, 1) := by decide +kernel
theorem dX4_firstError_31 : decode cX4_firstError 31 = .ok (.iload_n 1, 1) := by decide +kernel
theorem dX4_firstError_32 : decode cX4_firstError 32 = .ok (.invokevirtual 30, 3) := by decide +kernel
theorem dX4_firstError_35 : decode cX4_firstError 35 = .ok (.istore_n 3, 1) := by decide +kernel
theorem dX4_firstError_36 : decode cX4_firstError 36 = .ok (.iload_n 3, 1) := by decide +kernel
theorem dX4_firstError_37 : decode cX4_firstError 37 = .ok (.bipush (-9), 2) := by decide +kernel
theorem dX4_firstError_39 : decode cX4_firstError 39 = .ok (.if_icmp .eq 5, 3) := by decide +kernel
theorem dX4_firstError_42 : decode cX4_firstError 42 = .ok (.iload_n 3, 1) := by decide +kernel
theorem dX4_firstError_43 : decode cX4_firstError 43 = .ok (.ireturn, 1) := by decide +kernel
theorem dX4_firstError_44 : decode cX4_firstError 44 = .ok (.iload_n 1, 1) := by decide +kernel
theorem dX4_firstError_45 : decode cX4_firstError 45 = .ok (.aload_n 0, 1) := by decide +kernel
theorem dX4_firstError_46 : decode cX4_firstError 46 = .ok (.iload_n 1, 1) := by decide +kernel
theorem dX4_firstError_47 : decode cX4_firstError 47 = .ok (.invokevirtual 33, 3) := by decide +kernel
theorem dX4_firstError_50 : decode cX4_firstError 50 = .ok (.iadd, 1) := by decide +kernel
theorem dX4_firstError_51 : decode cX4_firstError 51 = .ok (.istore_n 1, 1) := by decide +kernel
theorem dX4_firstError_52 : decode cX4_firstError 52 = .ok (.iinc 2 1, 3) := by decide +kernel
theorem dX4_firstError_55 : decode cX4_firstError 55 = .ok (.goto (-39), 3) := by decide +kernel
theorem dX4_firstError_58 : decode cX4_firstError 58 = .ok (.bipush (-9), 2) := by decide +kernel
theorem dX4_firstError_60 : decode cX4_firstError 60 = .ok (.ireturn, 1) := by decide +kernel
theorem dX4_partLength_0 : decode cX4_partLength 0 = .ok (.aload_n 0, 1) := by decide +kernel
theorem dX4_partLength_1 : decode cX4_partLength 1 = .ok (.iload_n 1, 1) := by decide +kernel
theorem dX4_partLength_2 : decode cX4_partLength 2 = .ok (.invokevirtual 23, 3) := by decide +kernel
theorem dX4_partLength_5 : decode cX4_partLength 5 = .ok (.lookupswitch 31 #[(100, 27), (103, 29)], 27) := by decide +kernel
theorem dX4_partLength_32 : decode cX4_partLength 32 = .ok (.iconst 5, 1) := by decide +kernel
theorem dX4_partLength_33 : decode cX4_partLength 33 = .ok (.ireturn, 1) := by decide +kernel
theorem dX4_partLength_34 : decode cX4_partLength 34 = .ok (.iconst 2, 1) := by decide +kernel
theorem dX4_partLength_35 : decode cX4_partLength 35 = .ok (.ireturn, 1) := by decide +kernel
theorem dX4_partLength_36 : decode cX4_partLength 36 = .ok (.iconst 3, 1) := by decide +kernel
theorem dX4_partLength_37 : decode cX4_partLength 37 = .ok (.ireturn, 1) := by decide +kernel
theorem dX4_errorInPart_0 : decode cX4_errorInPart 0 = .ok (.aload_n 0, 1) := by decide +kernel
theorem dX4_errorInPart_1 : decode cX4_errorInPart 1 = .ok (.iload_n 1, 1) := by decide +kernel
theorem dX4_errorInPart_2 : decode cX4_errorInPart 2 = .ok (.invokevirtual 23, 3) := by decide +kernel
theorem dX4_errorInPart_5 : decode cX4_errorInPart 5 = .ok (.lookupswitch 101 #[(100, 51), (103, 91), (112, 59), (116, 71), (119, 81)], 51) := by decide +kernel
theorem dX4_errorInPart_56 : decode cX4_errorInPart 56 = .ok (.aload_n 0, 1) := by decide +kernel
theorem dX4_errorInPart_57 : decode cX4_errorInPart 57 = .ok (.iload_n 1, 1) := by decide +kernel
theorem dX4_errorInPart_58 : decode cX4_errorInPart 58 = .ok (.iconst 1, 1) := by decide +kernel
theorem dX4_errorInPart_59 : decode cX4_errorInPart 59 = .ok (.iadd, 1) := by decide +kernel
theorem dX4_errorInPart_60 : decode cX4_errorInPart 60 = .ok (.invokevirtual 36, 3) := by decide +kernel
theorem dX4_errorInPart_63 : decode cX4_errorInPart 63 = .ok (.ireturn, 1) := by decide +kernel
theorem dX4_errorInPart_64 : decode cX4_errorInPart 64 = .ok (.aload_n 0, 1) := by decide +kernel
theorem dX4_errorInPart_65 : decode cX4_errorInPart 65 = .ok (.iload_n 1, 1) := by decide +kernel
theorem dX4_errorInPart_66 : decode cX4_errorInPart 66 = .ok (.iconst 1, 1) := by decide +kernel
theorem dX4_errorInPart_67 : decode cX4_errorInPart 67 = .ok (.iadd, 1) := by decide +kernel
theorem dX4_errorInPart_68 : decode cX4_errorInPart 68 = .ok (.iconst 2, 1) := by decide +kernel
theorem dX4_errorInPart_69 : decode cX4_errorInPart 69 = .ok (.iconst 1, 1) := by decide +kernel
theorem dX4_errorInPart_70 : decode cX4_errorInPart 70 = .ok (.bipush 99, 2) := by decide +kernel
theorem dX4_errorInPart_72 : decode cX4_errorInPart 72 = .ok (.invokevirtual 39, 3) := by decide +kernel
theorem dX4_errorInPart_75 : decode cX4_errorInPart 75 = .ok (.ireturn, 1) := by decide +kernel
theorem dX4_errorInPart_76 : decode cX4_errorInPart 76 = .ok (.aload_n 0, 1) := by decide +kernel
theorem dX4_errorInPart_77 : decode cX4_errorInPart 77 = .ok (.iload_n 1, 1) := by decide +kernel
theorem dX4_errorInPart_78 : decode cX4_errorInPart 78 = .ok (.iconst 1, 1) := by decide +kernel
theorem dX4_errorInPart_79 : decode cX4_errorInPart 79 = .ok (.iadd, 1) := by decide +kernel
theorem dX4_errorInPart_80 : decode cX4_errorInPart 80 = .ok (.iconst 2, 1) := by decide +kernel
theorem dX4_errorInPart_81 : decode cX4_errorInPart 81 = .ok (.iconst 0, 1) := by decide +kernel
theorem dX4_errorInPart_82 : decode cX4_errorInPart 82 = .ok (.invokevirtual 43, 3) := by decide +kernel
theorem dX4_errorInPart_85 : decode cX4_errorInPart 85 = .ok (.ireturn, 1) := by decide +kernel
theorem dX4_errorInPart_86 : decode cX4_errorInPart 86 = .ok (.aload_n 0, 1) := by decide +kernel
theorem dX4_errorInPart_87 : decode cX4_errorInPart 87 = .ok (.iload_n 1, 1) := by decide +kernel
theorem dX4_errorInPart_88 : decode cX4_errorInPart 88 = .ok (.iconst 1, 1) := by decide +kernel
theorem dX4_errorInPart_89 : decode cX4_errorInPart 89 = .ok (.iadd, 1) := by decide +kernel
theorem dX4_errorInPart_90 : decode cX4_errorInPart 90 = .ok (.iconst 2, 1) := by decide +kernel
theorem dX4_errorInPart_91 : decode cX4_errorInPart 91 = .ok (.iconst 1, 1) := by decide +kernel
theorem dX4_errorInPart_92 : decode cX4_errorInPart 92 = .ok (.invokevirtual 43, 3) := by decide +kernel
theorem dX4_errorInPart_95 : decode cX4_errorInPart 95 = .ok (.ireturn, 1) := by decide +kernel
theorem dX4_errorInPart_96 : decode cX4_errorInPart 96 = .ok (.aload_n 0, 1) := by decide +kernel
theorem dX4_errorInPart_97 : decode cX4_errorInPart 97 = .ok (.iload_n 1, 1) := by decide +kernel
theorem dX4_errorInPart_98 : decode cX4_errorInPart 98 = .ok (.iconst 1, 1) := by decide +kernel
theorem dX4_errorInPart_99 : decode cX4_errorInPart 99 = .ok (.iadd, 1) := by decide +kernel
theorem dX4_errorInPart_100 : decode cX4_errorInPart 100 = .ok (.iconst 1, 1) := by decide +kernel
theorem dX4_errorInPart_101 : decode cX4_errorInPart 101 = .ok (.iconst 2, 1) := by decide +kernel
theorem dX4_errorInPart_102 : decode cX4_errorInPart 102 = .ok (.invokevirtual 43, 3) := by decide +kernel
theorem dX4_errorInPart_105 : decode cX4_errorInPart 105 = .ok (.ireturn, 1) := by decide +kernel
theorem dX4_errorInPart_106 : decode cX4_errorInPart 106 = .ok (.iload_n 1, 1) := by decide +kernel
theorem dX4_errorInPart_107 : decode cX4_errorInPart 107 = .ok (.ireturn, 1) := by decide +kernel
theorem dX4_errorInDrop_0 : decode cX4_errorInDrop 0 = .ok (.aload_n 0, 1) := by decide +kernel
theorem dX4_errorInDrop_1 : decode cX4_errorInDrop 1 = .ok (.iload_n 1, 1) := by decide +kernel
theorem dX4_errorInDrop_2 : decode cX4_errorInDrop 2 = .ok (.iconst 2, 1) := by decide +kernel
theorem dX4_errorInDrop_3 : decode cX4_errorInDrop 3 = .ok (.iconst 0, 1) := by decide +kernel
theorem dX4_errorInDrop_4 : decode cX4_errorInDrop 4 = .ok (.bipush 99, 2) := by decide +kernel
theorem dX4_errorInDrop_6 : decode cX4_errorInDrop 6 = .ok (.invokevirtual 39, 3) := by decide +kernel
theorem dX4_errorInDrop_9 : decode cX4_errorInDrop 9 = .ok (.istore_n 2, 1) := by decide +kernel
theorem dX4_errorInDrop_10 : decode cX4_errorInDrop 10 = .ok (.iload_n 2, 1) := by decide +kernel
theorem dX4_errorInDrop_11 : decode cX4_errorInDrop 11 = .ok (.bipush (-9), 2) := by decide +kernel
theorem dX4_errorInDrop_13 : decode cX4_errorInDrop 13 = .ok (.if_icmp .eq 7, 3) := by decide +kernel
theorem dX4_errorInDrop_16 : decode cX4_errorInDrop 16 = .ok (.iload_n 2, 1) := by decide +kernel
theorem dX4_errorInDrop_17 : decode cX4_errorInDrop 17 = .ok (.goto 14, 3) := by decide +kernel
theorem dX4_errorInDrop_20 : decode cX4_errorInDrop 20 = .ok (.aload_n 0, 1) := by decide +kernel
theorem dX4_errorInDrop_21 : decode cX4_errorInDrop 21 = .ok (.iload_n 1, 1) := by decide +kernel
theorem dX4_errorInDrop_22 : decode cX4_errorInDrop 22 = .ok (.iconst 2, 1) := by decide +kernel
theorem dX4_errorInDrop_23 : decode cX4_errorInDrop 23 = .ok (.iadd, 1) := by decide +kernel
theorem dX4_errorInDrop_24 : decode cX4_errorInDrop 24 = .ok (.iconst 2, 1) := by decide +kernel
theorem dX4_errorInDrop_25 : decode cX4_errorInDrop 25 = .ok (.iconst 1, 1) := by decide +kernel
theorem dX4_errorInDrop_26 : decode cX4_errorInDrop 26 = .ok (.bipush 60, 2) := by decide +kernel
theorem dX4_errorInDrop_28 : decode cX4_errorInDrop 28 = .ok (.invokevirtual 39, 3) := by decide +kernel
theorem dX4_errorInDrop_31 : decode cX4_errorInDrop 31 = .ok (.ireturn, 1) := by decide +kernel
theorem dX4_errorInSetting_0 : decode cX4_errorInSetting 0 = .ok (.aload_n 0, 1) := by decide +kernel
theorem dX4_errorInSetting_1 : decode cX4_errorInSetting 1 = .ok (.iload_n 1, 1) := by decide +kernel
theorem dX4_errorInSetting_2 : decode cX4_errorInSetting 2 = .ok (.iload_n 2, 1) := by decide +kernel
theorem dX4_errorInSetting_3 : decode cX4_errorInSetting 3 = .ok (.getstatic 47, 3) := by decide +kernel
theorem dX4_errorInSetting_6 : decode cX4_errorInSetting 6 = .ok (.iload_n 3, 1) := by decide +kernel
theorem dX4_errorInSetting_7 : decode cX4_errorInSetting 7 = .ok (.iaload, 1) := by decide +kernel
theorem dX4_errorInSetting_8 : decode cX4_errorInSetting 8 = .ok (.getstatic 50, 3) := by decide +kernel
theorem dX4_errorInSetting_11 : decode cX4_errorInSetting 11 = .ok (.iload_n 3, 1) := by decide +kernel
theorem dX4_errorInSetting_12 : decode cX4_errorInSetting 12 = .ok (.iaload, 1) := by decide +kernel
theorem dX4_errorInSetting_13 : decode cX4_errorInSetting 13 = .ok (.invokevirtual 39, 3) := by decide +kernel
theorem dX4_errorInSetting_16 : decode cX4_errorInSetting 16 = .ok (.ireturn, 1) := by decide +kernel
theorem dX4_errorInNumber_0 : decode cX4_errorInNumber 0 = .ok (.iconst 0, 1) := by decide +kernel
theorem dX4_errorInNumber_1 : decode cX4_errorInNumber 1 = .ok (.istore 5, 2) := by decide +kernel
theorem dX4_errorInNumber_3 : decode cX4_errorInNumber 3 = .ok (.iconst 0, 1) := by decide +kernel
theorem dX4_errorInNumber_4 : decode cX4_errorInNumber 4 = .ok (.istore 6, 2) := by decide +kernel
theorem dX4_errorInNumber_6 : decode cX4_errorInNumber 6 = .ok (.iload 6, 2) := by decide +kernel
theorem dX4_errorInNumber_8 : decode cX4_errorInNumber 8 = .ok (.iload_n 2, 1) := by decide +kernel
theorem dX4_errorInNumber_9 : decode cX4_errorInNumber 9 = .ok (.if_icmp .ge 84, 3) := by decide +kernel
theorem dX4_errorInNumber_12 : decode cX4_errorInNumber 12 = .ok (.aload_n 0, 1) := by decide +kernel
theorem dX4_errorInNumber_13 : decode cX4_errorInNumber 13 = .ok (.iload_n 1, 1) := by decide +kernel
theorem dX4_errorInNumber_14 : decode cX4_errorInNumber 14 = .ok (.iload 6, 2) := by decide +kernel
theorem dX4_errorInNumber_16 : decode cX4_errorInNumber 16 = .ok (.iadd, 1) := by decide +kernel
theorem dX4_errorInNumber_17 : decode cX4_errorInNumber 17 = .ok (.invokevirtual 27, 3) := by decide +kernel
theorem dX4_errorInNumber_20 : decode cX4_errorInNumber 20 = .ok (.istore 7, 2) := by decide +kernel
theorem dX4_errorInNumber_22 : decode cX4_errorInNumber 22 = .ok (.iload 7, 2) := by decide +kernel
theorem dX4_errorInNumber_24 : decode cX4_errorInNumber 24 = .ok (.iconst 0, 1) := by decide +kernel
theorem dX4_errorInNumber_25 : decode cX4_errorInNumber 25 = .ok (.bipush 9, 2) := by decide +kernel
theorem dX4_errorInNumber_27 : decode cX4_errorInNumber 27 = .ok (.invokestatic 53, 3) := by decide +kernel
theorem dX4_errorInNumber_30 : decode cX4_errorInNumber 30 = .ok (.ifCond .eq 8, 3) := by decide +kernel
theorem dX4_errorInNumber_33 : decode cX4_errorInNumber 33 = .ok (.iload_n 1, 1) := by decide +kernel
theorem dX4_errorInNumber_34 : decode cX4_errorInNumber 34 = .ok (.iload 6, 2) := by decide +kernel
theorem dX4_errorInNumber_36 : decode cX4_errorInNumber 36 = .ok (.iadd, 1) := by decide +kernel
theorem dX4_errorInNumber_37 : decode cX4_errorInNumber 37 = .ok (.ireturn, 1) := by decide +kernel
theorem dX4_errorInNumber_38 : decode cX4_errorInNumber 38 = .ok (.iload 6, 2) := by decide +kernel
theorem dX4_errorInNumber_40 : decode cX4_errorInNumber 40 = .ok (.iconst 1, 1) := by decide +kernel
theorem dX4_errorInNumber_41 : decode cX4_errorInNumber 41 = .ok (.iadd, 1) := by decide +kernel
theorem dX4_errorInNumber_42 : decode cX4_errorInNumber 42 = .ok (.iload_n 2, 1) := by decide +kernel
theorem dX4_errorInNumber_43 : decode cX4_errorInNumber 43 = .ok (.if_icmp .ge 8, 3) := by decide +kernel
theorem dX4_errorInNumber_46 : decode cX4_errorInNumber 46 = .ok (.bipush 10, 2) := by decide +kernel
theorem dX4_errorInNumber_48 : decode cX4_errorInNumber 48 = .ok (.goto 4, 3) := by decide +kernel
theorem dX4_errorInNumber_51 : decode cX4_errorInNumber 51 = .ok (.iconst 1, 1) := by decide +kernel
theorem dX4_errorInNumber_52 : decode cX4_errorInNumber 52 = .ok (.istore 8, 2) := by decide +kernel
theorem dX4_errorInNumber_54 : decode cX4_errorInNumber 54 = .ok (.iload 5, 2) := by decide +kernel
theorem dX4_errorInNumber_56 : decode cX4_errorInNumber 56 = .ok (.iload 7, 2) := by decide +kernel
theorem dX4_errorInNumber_58 : decode cX4_errorInNumber 58 = .ok (.iload 8, 2) := by decide +kernel
theorem dX4_errorInNumber_60 : decode cX4_errorInNumber 60 = .ok (.imul, 1) := by decide +kernel
theorem dX4_errorInNumber_61 : decode cX4_errorInNumber 61 = .ok (.iadd, 1) := by decide +kernel
theorem dX4_errorInNumber_62 : decode cX4_errorInNumber 62 = .ok (.istore 5, 2) := by decide +kernel
theorem dX4_errorInNumber_64 : decode cX4_errorInNumber 64 = .ok (.iload 5, 2) := by decide +kernel
theorem dX4_errorInNumber_66 : decode cX4_errorInNumber 66 = .ok (.iload 4, 2) := by decide +kernel
theorem dX4_errorInNumber_68 : decode cX4_errorInNumber 68 = .ok (.if_icmp .gt 14, 3) := by decide +kernel
theorem dX4_errorInNumber_71 : decode cX4_errorInNumber 71 = .ok (.iload 5, 2) := by decide +kernel
theorem dX4_errorInNumber_73 : decode cX4_errorInNumber 73 = .ok (.iload 8, 2) := by decide +kernel
theorem dX4_errorInNumber_75 : decode cX4_errorInNumber 75 = .ok (.iadd, 1) := by decide +kernel
theorem dX4_errorInNumber_76 : decode cX4_errorInNumber 76 = .ok (.iconst 1, 1) := by decide +kernel
theorem dX4_errorInNumber_77 : decode cX4_errorInNumber 77 = .ok (.isub, 1) := by decide +kernel
theorem dX4_errorInNumber_78 : decode cX4_errorInNumber 78 = .ok (.iload_n 3, 1) := by decide +kernel
theorem dX4_errorInNumber_79 : decode cX4_errorInNumber 79 = .ok (.if_icmp .ge 8, 3) := by decide +kernel
theorem dX4_errorInNumber_82 : decode cX4_errorInNumber 82 = .ok (.iload_n 1, 1) := by decide +kernel
theorem dX4_errorInNumber_83 : decode cX4_errorInNumber 83 = .ok (.iload 6, 2) := by decide +kernel
theorem dX4_errorInNumber_85 : decode cX4_errorInNumber 85 = .ok (.iadd, 1) := by decide +kernel
theorem dX4_errorInNumber_86 : decode cX4_errorInNumber 86 = .ok (.ireturn, 1) := by decide +kernel
theorem dX4_errorInNumber_87 : decode cX4_errorInNumber 87 = .ok (.iinc 6 1, 3) := by decide +kernel
theorem dX4_errorInNumber_90 : decode cX4_errorInNumber 90 = .ok (.goto (-84), 3) := by decide +kernel
theorem dX4_errorInNumber_93 : decode cX4_errorInNumber 93 = .ok (.bipush (-9), 2) := by decide +kernel
theorem dX4_errorInNumber_95 : decode cX4_errorInNumber 95 = .ok (.ireturn, 1) := by decide +kernel
theorem dX5_init_0 : decode cX5_init 0 = .ok (.aload_n 0, 1) := by decide +kernel
theorem dX5_init_1 : decode cX5_init 1 = .ok (.invokespecial 1, 3) := by decide +kernel
theorem dX5_init_4 : decode cX5_init 4 = .ok (.aload_n 0, 1) := by decide +kernel
theorem dX5_init_5 : decode cX5_init 5 = .ok (.new 7, 3) := by decide +kernel
theorem dX5_init_8 : decode cX5_init 8 = .ok (.dup, 1) := by decide +kernel
theorem dX5_init_9 : decode cX5_init 9 = .ok (.invokespecial 9, 3) := by decide +kernel
theorem dX5_init_12 : decode cX5_init 12 = .ok (.putfield 10, 3) := by decide +kernel
theorem dX5_init_15 : decode cX5_init 15 = .ok (.aload_n 0, 1) := by decide +kernel
theorem dX5_init_16 : decode cX5_init 16 = .ok (.new 16, 3) := by decide +kernel
theorem dX5_init_19 : decode cX5_init 19 = .ok (.dup, 1) := by decide +kernel
theorem dX5_init_20 : decode cX5_init 20 = .ok (.invokespecial 18, 3) := by decide +kernel
theorem dX5_init_23 : decode cX5_init 23 = .ok (.putfield 19, 3) := by decide +kernel
theorem dX5_init_26 : decode cX5_init 26 = .ok (.aload_n 0, 1) := by decide +kernel
theorem dX5_init_27 : decode cX5_init 27 = .ok (.new 16, 3) := by decide +kernel
theorem dX5_init_30 : decode cX5_init 30 = .ok (.dup, 1) := by decide +kernel
theorem dX5_init_31 : decode cX5_init 31 = .ok (.invokespecial 18, 3) := by decide +kernel
theorem dX5_init_34 : decode cX5_init 34 = .ok (.putfield 23, 3) := by decide +kernel
theorem dX5_init_37 : decode cX5_init 37 = .ok (.aload_n 0, 1) := by decide +kernel
theorem dX5_init_38 : decode cX5_init 38 = .ok (.new 16, 3) := by decide +kernel
theorem dX5_init_41 : decode cX5_init 41 = .ok (.dup, 1) := by decide +kernel
theorem dX5_init_42 : decode cX5_init 42 = .ok (.invokespecial 18, 3) := by decide +kernel
theorem dX5_init_45 : decode cX5_init 45 = .ok (.putfield 26, 3) := by decide +kernel
theorem dX5_init_48 : decode cX5_init 48 = .ok (.aload_n 0, 1) := by decide +kernel
theorem dX5_init_49 : decode cX5_init 49 = .ok (.bipush 14, 2) := by decide +kernel
theorem dX5_init_51 : decode cX5_init 51 = .ok (.anewarray 16, 3) := by decide +kernel
theorem dX5_init_54 : decode cX5_init 54 = .ok (.putfield 29, 3) := by decide +kernel
theorem dX5_init_57 : decode cX5_init 57 = .ok (.aload_n 0, 1) := by decide +kernel
theorem dX5_init_58 : decode cX5_init 58 = .ok (.iconst 0, 1) := by decide +kernel
theorem dX5_init_59 : decode cX5_init 59 = .ok (.putfield 33, 3) := by decide +kernel
theorem dX5_init_62 : decode cX5_init 62 = .ok (.aload_n 0, 1) := by decide +kernel
theorem dX5_init_63 : decode cX5_init 63 = .ok (.iconst 0, 1) := by decide +kernel
theorem dX5_init_64 : decode cX5_init 64 = .ok (.putfield 37, 3) := by decide +kernel
theorem dX5_init_67 : decode cX5_init 67 = .ok (.aload_n 0, 1) := by decide +kernel
theorem dX5_init_68 : decode cX5_init 68 = .ok (.new 16, 3) := by decide +kernel
theorem dX5_init_71 : decode cX5_init 71 = .ok (.dup, 1) := by decide +kernel
theorem dX5_init_72 : decode cX5_init 72 = .ok (.invokespecial 18, 3) := by decide +kernel
theorem dX5_init_75 : decode cX5_init 75 = .ok (.putfield 40, 3) := by decide +kernel
theorem dX5_init_78 : decode cX5_init 78 = .ok (.aload_n 0, 1) := by decide +kernel
theorem dX5_init_79 : decode cX5_init 79 = .ok (.new 16, 3) := by decide +kernel
theorem dX5_init_82 : decode cX5_init 82 = .ok (.dup, 1) := by decide +kernel
theorem dX5_init_83 : decode cX5_init 83 = .ok (.invokespecial 18, 3) := by decide +kernel
theorem dX5_init_86 : decode cX5_init 86 = .ok (.putfield 43, 3) := by decide +kernel
theorem dX5_init_89 : decode cX5_init 89 = .ok (.aload_n 0, 1) := by decide +kernel
theorem dX5_init_90 : decode cX5_init 90 = .ok (.iconst 0, 1) := by decide +kernel
theorem dX5_init_91 : decode cX5_init 91 = .ok (.putfield 46, 3) := by decide +kernel
theorem dX5_init_94 : decode cX5_init 94 = .ok (.aload_n 0, 1) := by decide +kernel
theorem dX5_init_95 : decode cX5_init 95 = .ok (.iconst 0, 1) := by decide +kernel
theorem dX5_init_96 : decode cX5_init 96 = .ok (.putfield 50, 3) := by decide +kernel
theorem dX5_init_99 : decode cX5_init 99 = .ok (.iconst 0, 1) := by decide +kernel
theorem dX5_init_100 : decode cX5_init 100 = .ok (.istore_n 1, 1) := by decide +kernel
theorem dX5_init_101 : decode cX5_init 101 = .ok (.iload_n 1, 1) := by decide +kernel
theorem dX5_init_102 : decode cX5_init 102 = .ok (.aload_n 0, 1) := by decide +kernel
theorem dX5_init_103 : decode cX5_init 103 = .ok (.getfield 29, 3) := by decide +kernel
theorem dX5_init_106 : decode cX5_init 106 = .ok (.arraylength, 1) := by decide +kernel
theorem dX5_init_107 : decode cX5_init 107 = .ok (.if_icmp .ge 22, 3) := by decide +kernel
theorem dX5_init_110 : decode cX5_init 110 = .ok (.aload_n 0, 1) := by decide +kernel
theorem dX5_init_111 : decode cX5_init 111 = .ok (.getfield 29, 3) := by decide +kernel
theorem dX5_init_114 : decode cX5_init 114 = .ok (.iload_n 1, 1) := by decide +kernel
theorem dX5_init_115 : decode cX5_init 115 = .ok (.new 16, 3) := by decide +kernel
theorem dX5_init_118 : decode cX5_init 118 = .ok (.dup, 1) := by decide +kernel
theorem dX5_init_119 : decode cX5_init 119 = .ok (.invokespecial 18, 3) := by decide +kernel
theorem dX5_init_122 : decode cX5_init 122 = .ok (.aastore, 1) := by decide +kernel
theorem dX5_init_123 : decode cX5_init 123 = .ok (.iinc 1 1, 3) := by decide +kernel
theorem dX5_init_126 : decode cX5_init 126 = .ok (.goto (-25), 3) := by decide +kernel
theorem dX5_init_129 : decode cX5_init 129 = .ok (.return_, 1) := by decide +kernel
theorem dX5_append_0 : decode cX5_append 0 = .ok (.iload_n 1, 1) := by decide +kernel
theorem dX5_append_1 : decode cX5_append 1 = .ok (.iconst 0, 1) := by decide +kernel
theorem dX5_append_2 : decode cX5_append 2 = .ok (.sipush 255, 3) := by decide +kernel
theorem dX5_append_5 : decode cX5_append 5 = .ok (.invokestatic 53, 3) := by decide +kernel
theorem dX5_append_8 : decode cX5_append 8 = .ok (.ifCond .eq 13, 3) := by decide +kernel
theorem dX5_append_11 : decode cX5_append 11 = .ok (.new 57, 3) := by decide +kernel
theorem dX5_append_14 : decode cX5_append 14 = .ok (.dup, 1) := by decide +kernel
theorem dX5_append_15 : decode cX5_append 15 = .ok (.ldc 59, 2) := by decide +kernel
theorem dX5_append_17 : decode cX5_append 17 = .ok (.invokespecial 61, 3) := by decide +kernel
theorem dX5_append_20 : decode cX5_append 20 = .ok (.athrow, 1) := by decide +kernel
theorem dX5_append_21 : decode cX5_append 21 = .ok (.aload_n 0, 1) := by decide +kernel
theorem dX5_append_22 : decode cX5_append 22 = .ok (.getfield 10, 3) := by decide +kernel
theorem dX5_append_25 : decode cX5_append 25 = .ok (.invokevirtual 64, 3) := by decide +kernel
theorem dX5_append_28 : decode cX5_append 28 = .ok (.ifCond .eq 13, 3) := by decide +kernel
theorem dX5_append_31 : decode cX5_append 31 = .ok (.new 68, 3) := by decide +kernel
theorem dX5_append_34 : decode cX5_append 34 = .ok (.dup, 1) := by decide +kernel
theorem dX5_append_35 : decode cX5_append 35 = .ok (.ldc 70, 2) := by decide +kernel
theorem dX5_append_37 : decode cX5_append 37 = .ok (.invokespecial 72, 3) := by decide +kernel
theorem dX5_append_40 : decode cX5_append 40 = .ok (.athrow, 1) := by decide +kernel
theorem dX5_append_41 : decode cX5_append 41 = .ok (.aload_n 0, 1) := by decide +kernel
theorem dX5_append_42 : decode cX5_append 42 = .ok (.getfield 10, 3) := by decide +kernel
theorem dX5_append_45 : decode cX5_append 45 = .ok (.iload_n 1, 1) := by decide +kernel
theorem dX5_append_46 : decode cX5_append 46 = .ok (.invokevirtual 73, 3) := by decide +kernel
theorem dX5_append_49 : decode cX5_append 49 = .ok (.ireturn, 1) := by decide +kernel
theorem dX5_clearText_0 : decode cX5_clearText 0 = .ok (.aload_n 0, 1) := by decide +kernel
theorem dX5_clearText_1 : decode cX5_clearText 1 = .ok (.getfield 10, 3) := by decide +kernel
theorem dX5_clearText_4 : decode cX5_clearText 4 = .ok (.invokevirtual 77, 3) := by decide +kernel
theorem dX5_clearText_7 : decode cX5_clearText 7 = .ok (.ireturn, 1) := by decide +kernel
theorem dX5_errorPosition_0 : decode cX5_errorPosition 0 = .ok (.aload_n 0, 1) := by decide +kernel
theorem dX5_errorPosition_1 : decode cX5_errorPosition 1 = .ok (.getfield 10, 3) := by decide +kernel
theorem dX5_errorPosition_4 : decode cX5_errorPosition 4 = .ok (.invokevirtual 81, 3) := by decide +kernel
theorem dX5_errorPosition_7 : decode cX5_errorPosition 7 = .ok (.ireturn, 1) := by decide +kernel
theorem dX5_load_0 : decode cX5_load 0 = .ok (.aload_n 0, 1) := by decide +kernel
theorem dX5_load_1 : decode cX5_load 1 = .ok (.getfield 10, 3) := by decide +kernel
theorem dX5_load_4 : decode cX5_load 4 = .ok (.invokevirtual 81, 3) := by decide +kernel
theorem dX5_load_7 : decode cX5_load 7 = .ok (.bipush (-9), 2) := by decide +kernel
theorem dX5_load_9 : decode cX5_load 9 = .ok (.if_icmp .eq 13, 3) := by decide +kernel
theorem dX5_load_12 : decode cX5_load 12 = .ok (.new 68, 3) := by decide +kernel
theorem dX5_load_15 : decode cX5_load 15 = .ok (.dup, 1) := by decide +kernel
theorem dX5_load_16 : decode cX5_load 16 = .ok (.ldc 84, 2) := by decide +kernel
theorem dX5_load_18 : decode cX5_load 18 = .ok (.invokespecial 72, 3) := by decide +kernel
theorem dX5_load_21 : decode cX5_load 21 = .ok (.athrow, 1) := by decide +kernel
theorem dX5_load_22 : decode cX5_load 22 = .ok (.aload_n 0, 1) := by decide +kernel
theorem dX5_load_23 : decode cX5_load 23 = .ok (.getfield 19, 3) := by decide +kernel
theorem dX5_load_26 : decode cX5_load 26 = .ok (.aload_n 0, 1) := by decide +kernel
theorem dX5_load_27 : decode cX5_load 27 = .ok (.getfield 23, 3) := by decide +kernel
theorem dX5_load_30 : decode cX5_load 30 = .ok (.invokevirtual 86, 3) := by decide +kernel
theorem dX5_load_33 : decode cX5_load 33 = .ok (.aload_n 0, 1) := by decide +kernel
theorem dX5_load_34 : decode cX5_load 34 = .ok (.iconst 0, 1) := by decide +kernel
theorem dX5_load_35 : decode cX5_load 35 = .ok (.putfield 37, 3) := by decide +kernel
theorem dX5_load_38 : decode cX5_load 38 = .ok (.aload_n 0, 1) := by decide +kernel
theorem dX5_load_39 : decode cX5_load 39 = .ok (.iconst 0, 1) := by decide +kernel
theorem dX5_load_40 : decode cX5_load 40 = .ok (.putfield 46, 3) := by decide +kernel
theorem dX5_load_43 : decode cX5_load 43 = .ok (.aload_n 0, 1) := by decide +kernel
theorem dX5_load_44 : decode cX5_load 44 = .ok (.iconst 0, 1) := by decide +kernel
theorem dX5_load_45 : decode cX5_load 45 = .ok (.putfield 50, 3) := by decide +kernel
theorem dX5_load_48 : decode cX5_load 48 = .ok (.iconst 1, 1) := by decide +kernel
theorem dX5_load_49 : decode cX5_load 49 = .ok (.istore_n 1, 1) := by decide +kernel
theorem dX5_load_50 : decode cX5_load 50 = .ok (.iconst 0, 1) := by decide +kernel
theorem dX5_load_51 : decode cX5_load 51 = .ok (.istore_n 2, 1) := by decide +kernel
theorem dX5_load_52 : decode cX5_load 52 = .ok (.iload_n 2, 1) := by decide +kernel
theorem dX5_load_53 : decode cX5_load 53 = .ok (.bipush 100, 2) := by decide +kernel
theorem dX5_load_55 : decode cX5_load 55 = .ok (.if_icmp .ge 36, 3) := by decide +kernel
theorem dX5_load_58 : decode cX5_load 58 = .ok (.iload_n 1, 1) := by decide +kernel
theorem dX5_load_59 : decode cX5_load 59 = .ok (.aload_n 0, 1) := by decide +kernel
theorem dX5_load_60 : decode cX5_load 60 = .ok (.getfield 10, 3) := by decide +kernel
theorem dX5_load_63 : decode cX5_load 63 = .ok (.getfield 90, 3) := by decide +kernel
theorem dX5_load_66 : decode cX5_load 66 = .ok (.if_icmp .ge 25, 3) := by decide +kernel
theorem dX5_load_69 : decode cX5_load 69 = .ok (.aload_n 0, 1) := by decide +kernel
theorem dX5_load_70 : decode cX5_load 70 = .ok (.iload_n 1, 1) := by decide +kernel
theorem dX5_load_71 : decode cX5_load 71 = .ok (.invokevirtual 93, 3) := by decide +kernel
theorem dX5_load_74 : decode cX5_load 74 = .ok (.iload_n 1, 1) := by decide +kernel
theorem dX5_load_75 : decode cX5_load 75 = .ok (.aload_n 0, 1) := by decide +kernel
theorem dX5_load_76 : decode cX5_load 76 = .ok (.getfield 10, 3) := by decide +kernel
theorem dX5_load_79 : decode cX5_load 79 = .ok (.iload_n 1, 1) := by decide +kernel
theorem dX5_load_80 : decode cX5_load 80 = .ok (.invokevirtual 97, 3) := by decide +kernel
theorem dX5_load_83 : decode cX5_load 83 = .ok (.iadd, 1) := by decide +kernel
theorem dX5_load_84 : decode cX5_load 84 = .ok (.istore_n 1, 1) := by decide +kernel
theorem dX5_load_85 : decode cX5_load 85 = .ok (.iinc 2 1, 3) := by decide +kernel
theorem dX5_load_88 : decode cX5_load 88 = .ok (.goto (-36), 3) := by decide +kernel
theorem dX5_load_91 : decode cX5_load 91 = .ok (.aload_n 0, 1) := by decide +kernel
theorem dX5_load_92 : decode cX5_load 92 = .ok (.getfield 19, 3) := by decide +kernel
theorem dX5_load_95 : decode cX5_load 95 = .ok (.getfield 100, 3) := by decide +kernel
theorem dX5_load_98 : decode cX5_load 98 = .ok (.invokevirtual 104, 3) := by decide +kernel
theorem dX5_load_101 : decode cX5_load 101 = .ok (.ireturn, 1) := by decide +kernel
theorem dX5_about_0 : decode cX5_about 0 = .ok (.aload_n 0, 1) := by decide +kernel
theorem dX5_about_1 : decode cX5_about 1 = .ok (.getfield 19, 3) := by decide +kernel
theorem dX5_about_4 : decode cX5_about 4 = .ok (.getfield 109, 3) := by decide +kernel
theorem dX5_about_7 : decode cX5_about 7 = .ok (.astore_n 2, 1) := by decide +kernel
theorem dX5_about_8 : decode cX5_about 8 = .ok (.aload_n 0, 1) := by decide +kernel
theorem dX5_about_9 : decode cX5_about 9 = .ok (.getfield 19, 3) := by decide +kernel
theorem dX5_about_12 : decode cX5_about 12 = .ok (.getfield 100, 3) := by decide +kernel
theorem dX5_about_15 : decode cX5_about 15 = .ok (.astore_n 3, 1) := by decide +kernel
theorem dX5_about_16 : decode cX5_about 16 = .ok (.iload_n 1, 1) := by decide +kernel
theorem dX5_about_17 : decode cX5_about 17 = .ok (.tableswitch 151 0 11 #[63, 68, 73, 79, 85, 91, 97, 105, 113, 122, 130, 138], 63) := by decide +kernel
theorem dX5_about_80 : decode cX5_about 80 = .ok (.aload_n 2, 1) := by decide +kernel
theorem dX5_about_81 : decode cX5_about 81 = .ok (.getfield 113, 3) := by decide +kernel
theorem dX5_about_84 : decode cX5_about 84 = .ok (.ireturn, 1) := by decide +kernel
theorem dX5_about_85 : decode cX5_about 85 = .ok (.aload_n 3, 1) := by decide +kernel
theorem dX5_about_86 : decode cX5_about 86 = .ok (.invokevirtual 104, 3) := by decide +kernel
theorem dX5_about_89 : decode cX5_about 89 = .ok (.ireturn, 1) := by decide +kernel
theorem dX5_about_90 : decode cX5_about 90 = .ok (.aload_n 3, 1) := by decide +kernel
theorem dX5_about_91 : decode cX5_about 91 = .ok (.iconst 0, 1) := by decide +kernel
theorem dX5_about_92 : decode cX5_about 92 = .ok (.invokevirtual 118, 3) := by decide +kernel
theorem dX5_about_95 : decode cX5_about 95 = .ok (.ireturn, 1) := by decide +kernel
theorem dX5_about_96 : decode cX5_about 96 = .ok (.aload_n 3, 1) := by decide +kernel
theorem dX5_about_97 : decode cX5_about 97 = .ok (.iconst 1, 1) := by decide +kernel
theorem dX5_about_98 : decode cX5_about 98 = .ok (.invokevirtual 118, 3) := by decide +kernel
theorem dX5_about_101 : decode cX5_about 101 = .ok (.ireturn, 1) := by decide +kernel
theorem dX5_about_102 : decode cX5_about 102 = .ok (.aload_n 3, 1) := by decide +kernel
theorem dX5_about_103 : decode cX5_about 103 = .ok (.iconst 2, 1) := by decide +kernel
theorem dX5_about_104 : decode cX5_about 104 = .ok (.invokevirtual 118, 3) := by decide +kernel
theorem dX5_about_107 : decode cX5_about 107 = .ok (.ireturn, 1) := by decide +kernel
theorem dX5_about_108 : decode cX5_about 108 = .ok (.aload_n 3, 1) := by decide +kernel
theorem dX5_about_109 : decode cX5_about 109 = .ok (.iconst 3, 1) := by decide +kernel
theorem dX5_about_110 : decode cX5_about 110 = .ok (.invokevirtual 118, 3) := by decide +kernel
theorem dX5_about_113 : decode cX5_about 113 = .ok (.ireturn, 1) := by decide +kernel
theorem dX5_about_114 : decode cX5_about 114 = .ok (.aload_n 2, 1) := by decide +kernel
theorem dX5_about_115 : decode cX5_about 115 = .ok (.getfield 121, 3) := by decide +kernel
theorem dX5_about_118 : decode cX5_about 118 = .ok (.invokestatic 125, 3) := by decide +kernel
theorem dX5_about_121 : decode cX5_about 121 = .ok (.ireturn, 1) := by decide +kernel
theorem dX5_about_122 : decode cX5_about 122 = .ok (.aload_n 2, 1) := by decide +kernel
theorem dX5_about_123 : decode cX5_about 123 = .ok (.getfield 129, 3) := by decide +kernel
theorem dX5_about_126 : decode cX5_about 126 = .ok (.invokestatic 125, 3) := by decide +kernel
theorem dX5_about_129 : decode cX5_about 129 = .ok (.ireturn, 1) := by decide +kernel
theorem dX5_about_130 : decode cX5_about 130 = .ok (.aload_n 2, 1) := by decide +kernel
theorem dX5_about_131 : decode cX5_about 131 = .ok (.aload_n 2, 1) := by decide +kernel
theorem dX5_about_132 : decode cX5_about 132 = .ok (.getfield 113, 3) := by decide +kernel
theorem dX5_about_135 : decode cX5_about 135 = .ok (.invokevirtual 132, 3) := by decide +kernel
theorem dX5_about_138 : decode cX5_about 138 = .ok (.ireturn, 1) := by decide +kernel
theorem dX5_about_139 : decode cX5_about 139 = .ok (.aload_n 3, 1) := by decide +kernel
theorem dX5_about_140 : decode cX5_about 140 = .ok (.getfield 135, 3) := by decide +kernel
theorem dX5_about_143 : decode cX5_about 143 = .ok (.getfield 139, 3) := by decide +kernel
theorem dX5_about_146 : decode cX5_about 146 = .ok (.ireturn, 1) := by decide +kernel
theorem dX5_about_147 : decode cX5_about 147 = .ok (.aload_n 3, 1) := by decide +kernel
theorem dX5_about_148 : decode cX5_about 148 = .ok (.getfield 142, 3) := by decide +kernel
theorem dX5_about_151 : decode cX5_about 151 = .ok (.getfield 139, 3) := by decide +kernel
theorem dX5_about_154 : decode cX5_about 154 = .ok (.ireturn, 1) := by decide +kernel
theorem dX5_about_155 : decode cX5_about 155 = .ok (.aload_n 2, 1) := by decide +kernel
theorem dX5_about_156 : decode cX5_about 156 = .ok (.getfield 145, 3) := by decide +kernel
theorem dX5_about_159 : decode cX5_about 159 = .ok (.ifCond .eq 7, 3) := by decide +kernel
theorem dX5_about_162 : decode cX5_about 162 = .ok (.iconst 1, 1) := by decide +kernel
theorem dX5_about_163 : decode cX5_about 163 = .ok (.goto 4, 3) := by decide +kernel
theorem dX5_about_166 : decode cX5_about 166 = .ok (.iconst 0, 1) := by decide +kernel
theorem dX5_about_167 : decode cX5_about 167 = .ok (.ireturn, 1) := by decide +kernel
theorem dX5_about_168 : decode cX5_about 168 = .ok (.new 57, 3) := by decide +kernel
theorem dX5_about_171 : decode cX5_about 171 = .ok (.dup, 1) := by decide +kernel
theorem dX5_about_172 : decode cX5_about 172 = .ok (.ldc 148, 2) := by decide +kernel
theorem dX5_about_174 : decode cX5_about 174 = .ok (.invokespecial 61, 3) := by decide +kernel
theorem dX5_about_177 : decode cX5_about 177 = .ok (.athrow, 1) := by decide +kernel
theorem dX5_setting_0 : decode cX5_setting 0 = .ok (.iload_n 1, 1) := by decide +kernel
theorem dX5_setting_1 : decode cX5_setting 1 = .ok (.iconst 0, 1) := by decide +kernel
theorem dX5_setting_2 : decode cX5_setting 2 = .ok (.iconst 4, 1) := by decide +kernel
theorem dX5_setting_3 : decode cX5_setting 3 = .ok (.invokestatic 53, 3) := by decide +kernel
theorem dX5_setting_6 : decode cX5_setting 6 = .ok (.ifCond .eq 13, 3) := by decide +kernel
theorem dX5_setting_9 : decode cX5_setting 9 = .ok (.new 57, 3) := by decide +kernel
theorem dX5_setting_12 : decode cX5_setting 12 = .ok (.dup, 1) := by decide +kernel
theorem dX5_setting_13 : decode cX5_setting 13 = .ok (.ldc 150, 2) := by decide +kernel
theorem dX5_setting_15 : decode cX5_setting 15 = .ok (.invokespecial 61, 3) := by decide +kernel
theorem dX5_setting_18 : decode cX5_setting 18 = .ok (.athrow, 1) := by decide +kernel
theorem dX5_setting_19 : decode cX5_setting 19 = .ok (.aload_n 0, 1) := by decide +kernel
theorem dX5_setting_20 : decode cX5_setting 20 = .ok (.getfield 19, 3) := by decide +kernel
theorem dX5_setting_23 : decode cX5_setting 23 = .ok (.getfield 109, 3) := by decide +kernel
theorem dX5_setting_26 : decode cX5_setting 26 = .ok (.getfield 152, 3) := by decide +kernel
theorem dX5_setting_29 : decode cX5_setting 29 = .ok (.iload_n 1, 1) := by decide +kernel
theorem dX5_setting_30 : decode cX5_setting 30 = .ok (.iaload, 1) := by decide +kernel
theorem dX5_setting_31 : decode cX5_setting 31 = .ok (.ireturn, 1) := by decide +kernel
theorem dX5_bin_0 : decode cX5_bin 0 = .ok (.iload_n 1, 1) := by decide +kernel
theorem dX5_bin_1 : decode cX5_bin 1 = .ok (.iconst 0, 1) := by decide +kernel
theorem dX5_bin_2 : decode cX5_bin 2 = .ok (.bipush 7, 2) := by decide +kernel
theorem dX5_bin_4 : decode cX5_bin 4 = .ok (.invokestatic 53, 3) := by decide +kernel
theorem dX5_bin_7 : decode cX5_bin 7 = .ok (.ifCond .eq 13, 3) := by decide +kernel
theorem dX5_bin_10 : decode cX5_bin 10 = .ok (.new 155, 3) := by decide +kernel
theorem dX5_bin_13 : decode cX5_bin 13 = .ok (.dup, 1) := by decide +kernel
theorem dX5_bin_14 : decode cX5_bin 14 = .ok (.ldc 157, 2) := by decide +kernel
theorem dX5_bin_16 : decode cX5_bin 16 = .ok (.invokespecial 159, 3) := by decide +kernel
theorem dX5_bin_19 : decode cX5_bin 19 = .ok (.athrow, 1) := by decide +kernel
theorem dX5_bin_20 : decode cX5_bin 20 = .ok (.aload_n 0, 1) := by decide +kernel
theorem dX5_bin_21 : decode cX5_bin 21 = .ok (.getfield 19, 3) := by decide +kernel
theorem dX5_bin_24 : decode cX5_bin 24 = .ok (.getfield 109, 3) := by decide +kernel
theorem dX5_bin_27 : decode cX5_bin 27 = .ok (.astore_n 3, 1) := by decide +kernel
theorem dX5_bin_28 : decode cX5_bin 28 = .ok (.iload_n 2, 1) := by decide +kernel
theorem dX5_bin_29 : decode cX5_bin 29 = .ok (.tableswitch 68 0 4 #[35, 41, 47, 54, 61], 35) := by decide +kernel
theorem dX5_bin_64 : decode cX5_bin 64 = .ok (.aload_n 3, 1) := by decide +kernel
theorem dX5_bin_65 : decode cX5_bin 65 = .ok (.iload_n 1, 1) := by decide +kernel
theorem dX5_bin_66 : decode cX5_bin 66 = .ok (.invokevirtual 160, 3) := by decide +kernel
theorem dX5_bin_69 : decode cX5_bin 69 = .ok (.ireturn, 1) := by decide +kernel
theorem dX5_bin_70 : decode cX5_bin 70 = .ok (.aload_n 3, 1) := by decide +kernel
theorem dX5_bin_71 : decode cX5_bin 71 = .ok (.iload_n 1, 1) := by decide +kernel
theorem dX5_bin_72 : decode cX5_bin 72 = .ok (.invokevirtual 163, 3) := by decide +kernel
theorem dX5_bin_75 : decode cX5_bin 75 = .ok (.ireturn, 1) := by decide +kernel
theorem dX5_bin_76 : decode cX5_bin 76 = .ok (.aload_n 3, 1) := by decide +kernel
theorem dX5_bin_77 : decode cX5_bin 77 = .ok (.getfield 121, 3) := by decide +kernel
theorem dX5_bin_80 : decode cX5_bin 80 = .ok (.iload_n 1, 1) := by decide +kernel
theorem dX5_bin_81 : decode cX5_bin 81 = .ok (.iaload, 1) := by decide +kernel
theorem dX5_bin_82 : decode cX5_bin 82 = .ok (.ireturn, 1) := by decide +kernel
theorem dX5_bin_83 : decode cX5_bin 83 = .ok (.aload_n 3, 1) := by decide +kernel
theorem dX5_bin_84 : decode cX5_bin 84 = .ok (.getfield 129, 3) := by decide +kernel
theorem dX5_bin_87 : decode cX5_bin 87 = .ok (.iload_n 1, 1) := by decide +kernel
theorem dX5_bin_88 : decode cX5_bin 88 = .ok (.iaload, 1) := by decide +kernel
theorem dX5_bin_89 : decode cX5_bin 89 = .ok (.ireturn, 1) := by decide +kernel
theorem dX5_bin_90 : decode cX5_bin 90 = .ok (.aload_n 3, 1) := by decide +kernel
theorem dX5_bin_91 : decode cX5_bin 91 = .ok (.getfield 166, 3) := by decide +kernel
theorem dX5_bin_94 : decode cX5_bin 94 = .ok (.iload_n 1, 1) := by decide +kernel
theorem dX5_bin_95 : decode cX5_bin 95 = .ok (.iaload, 1) := by decide +kernel
theorem dX5_bin_96 : decode cX5_bin 96 = .ok (.ireturn, 1) := by decide +kernel
theorem dX5_bin_97 : decode cX5_bin 97 = .ok (.new 57, 3) := by decide +kernel
theorem dX5_bin_100 : decode cX5_bin 100 = .ok (.dup, 1) := by decide +kernel
theorem dX5_bin_101 : decode cX5_bin 101 = .ok (.ldc 169, 2) := by decide +kernel
theorem dX5_bin_103 : decode cX5_bin 103 = .ok (.invokespecial 61, 3) := by decide +kernel
theorem dX5_bin_106 : decode cX5_bin 106 = .ok (.athrow, 1) := by decide +kernel
theorem dX5_pulse_0 : decode cX5_pulse 0 = .ok (.iload_n 1, 1) := by decide +kernel
theorem dX5_pulse_1 : decode cX5_pulse 1 = .ok (.iconst 0, 1) := by decide +kernel
theorem dX5_pulse_2 : decode cX5_pulse 2 = .ok (.iconst 3, 1) := by decide +kernel
theorem dX5_pulse_3 : decode cX5_pulse 3 = .ok (.invokestatic 53, 3) := by decide +kernel
theorem dX5_pulse_6 : decode cX5_pulse 6 = .ok (.ifCond .eq 13, 3) := by decide +kernel
theorem dX5_pulse_9 : decode cX5_pulse 9 = .ok (.new 57, 3) := by decide +kernel
theorem dX5_pulse_12 : decode cX5_pulse 12 = .ok (.dup, 1) := by decide +kernel
theorem dX5_pulse_13 : decode cX5_pulse 13 = .ok (.ldc 171, 2) := by decide +kernel
theorem dX5_pulse_15 : decode cX5_pulse 15 = .ok (.invokespecial 61, 3) := by decide +kernel
theorem dX5_pulse_18 : decode cX5_pulse 18 = .ok (.athrow, 1) := by decide +kernel
theorem dX5_pulse_19 : decode cX5_pulse 19 = .ok (.aload_n 0, 1) := by decide +kernel
theorem dX5_pulse_20 : decode cX5_pulse 20 = .ok (.getfield 19, 3) := by decide +kernel
theorem dX5_pulse_23 : decode cX5_pulse 23 = .ok (.getfield 109, 3) := by decide +kernel
theorem dX5_pulse_26 : decode cX5_pulse 26 = .ok (.astore_n 2, 1) := by decide +kernel
theorem dX5_pulse_27 : decode cX5_pulse 27 = .ok (.aload_n 2, 1) := by decide +kernel
theorem dX5_pulse_28 : decode cX5_pulse 28 = .ok (.getfield 145, 3) := by decide +kernel
theorem dX5_pulse_31 : decode cX5_pulse 31 = .ok (.ifCond .ne 6, 3) := by decide +kernel
theorem dX5_pulse_34 : decode cX5_pulse 34 = .ok (.bipush (-9), 2) := by decide +kernel
theorem dX5_pulse_36 : decode cX5_pulse 36 = .ok (.ireturn, 1) := by decide +kernel
theorem dX5_pulse_37 : decode cX5_pulse 37 = .ok (.iload_n 1, 1) := by decide +kernel
theorem dX5_pulse_38 : decode cX5_pulse 38 = .ok (.tableswitch 46 0 2 #[26, 36, 41], 26) := by decide +kernel
theorem dX5_pulse_64 : decode cX5_pulse 64 = .ok (.aload_n 2, 1) := by decide +kernel
theorem dX5_pulse_65 : decode cX5_pulse 65 = .ok (.getfield 113, 3) := by decide +kernel
theorem dX5_pulse_68 : decode cX5_pulse 68 = .ok (.aload_n 2, 1) := by decide +kernel
theorem dX5_pulse_69 : decode cX5_pulse 69 = .ok (.getfield 173, 3) := by decide +kernel
theorem dX5_pulse_72 : decode cX5_pulse 72 = .ok (.isub, 1) := by decide +kernel
theorem dX5_pulse_73 : decode cX5_pulse 73 = .ok (.ireturn, 1) := by decide +kernel
theorem dX5_pulse_74 : decode cX5_pulse 74 = .ok (.aload_n 2, 1) := by decide +kernel
theorem dX5_pulse_75 : decode cX5_pulse 75 = .ok (.getfield 176, 3) := by decide +kernel
theorem dX5_pulse_78 : decode cX5_pulse 78 = .ok (.ireturn, 1) := by decide +kernel
theorem dX5_pulse_79 : decode cX5_pulse 79 = .ok (.aload_n 2, 1) := by decide +kernel
theorem dX5_pulse_80 : decode cX5_pulse 80 = .ok (.getfield 179, 3) := by decide +kernel
theorem dX5_pulse_83 : decode cX5_pulse 83 = .ok (.ireturn, 1) := by decide +kernel
theorem dX5_pulse_84 : decode cX5_pulse 84 = .ok (.aload_n 2, 1) := by decide +kernel
theorem dX5_pulse_85 : decode cX5_pulse 85 = .ok (.getfield 182, 3) := by decide +kernel
theorem dX5_pulse_88 : decode cX5_pulse 88 = .ok (.ifCond .eq 7, 3) := by decide +kernel
theorem dX5_pulse_91 : decode cX5_pulse 91 = .ok (.iconst 1, 1) := by decide +kernel
theorem dX5_pulse_92 : decode cX5_pulse 92 = .ok (.goto 4, 3) := by decide +kernel
theorem dX5_pulse_95 : decode cX5_pulse 95 = .ok (.iconst 0, 1) := by decide +kernel
theorem dX5_pulse_96 : decode cX5_pulse 96 = .ok (.ireturn, 1) := by decide +kernel
theorem dX5_fate_0 : decode cX5_fate 0 = .ok (.iload_n 1, 1) := by decide +kernel
theorem dX5_fate_1 : decode cX5_fate 1 = .ok (.ifCond .ge 13, 3) := by decide +kernel
theorem dX5_fate_4 : decode cX5_fate 4 = .ok (.new 57, 3) := by decide +kernel
theorem dX5_fate_7 : decode cX5_fate 7 = .ok (.dup, 1) := by decide +kernel
theorem dX5_fate_8 : decode cX5_fate 8 = .ok (.ldc 185, 2) := by decide +kernel
theorem dX5_fate_10 : decode cX5_fate 10 = .ok (.invokespecial 61, 3) := by decide +kernel
theorem dX5_fate_13 : decode cX5_fate 13 = .ok (.athrow, 1) := by decide +kernel
theorem dX5_fate_14 : decode cX5_fate 14 = .ok (.aload_n 0, 1) := by decide +kernel
theorem dX5_fate_15 : decode cX5_fate 15 = .ok (.getfield 19, 3) := by decide +kernel
theorem dX5_fate_18 : decode cX5_fate 18 = .ok (.getfield 100, 3) := by decide +kernel
theorem dX5_fate_21 : decode cX5_fate 21 = .ok (.getfield 142, 3) := by decide +kernel
theorem dX5_fate_24 : decode cX5_fate 24 = .ok (.iload_n 1, 1) := by decide +kernel
theorem dX5_fate_25 : decode cX5_fate 25 = .ok (.invokevirtual 187, 3) := by decide +kernel
theorem dX5_fate_28 : decode cX5_fate 28 = .ok (.ireturn, 1) := by decide +kernel
theorem dX5_longest_0 : decode cX5_longest 0 = .ok (.iload_n 1, 1) := by decide +kernel
theorem dX5_longest_1 : decode cX5_longest 1 = .ok (.iconst 0, 1) := by decide +kernel
theorem dX5_longest_2 : decode cX5_longest 2 = .ok (.iconst 3, 1) := by decide +kernel
theorem dX5_longest_3 : decode cX5_longest 3 = .ok (.invokestatic 53, 3) := by decide +kernel
theorem dX5_longest_6 : decode cX5_longest 6 = .ok (.ifCond .eq 13, 3) := by decide +kernel
theorem dX5_longest_9 : decode cX5_longest 9 = .ok (.new 57, 3) := by decide +kernel
theorem dX5_longest_12 : decode cX5_longest 12 = .ok (.dup, 1) := by decide +kernel
theorem dX5_longest_13 : decode cX5_longest 13 = .ok (.ldc 190, 2) := by decide +kernel
theorem dX5_longest_15 : decode cX5_longest 15 = .ok (.invokespecial 61, 3) := by decide +kernel
theorem dX5_longest_18 : decode cX5_longest 18 = .ok (.athrow, 1) := by decide +kernel
theorem dX5_longest_19 : decode cX5_longest 19 = .ok (.aload_n 0, 1) := by decide +kernel
theorem dX5_longest_20 : decode cX5_longest 20 = .ok (.getfield 19, 3) := by decide +kernel
theorem dX5_longest_23 : decode cX5_longest 23 = .ok (.getfield 100, 3) := by decide +kernel
theorem dX5_longest_26 : decode cX5_longest 26 = .ok (.getfield 142, 3) := by decide +kernel
theorem dX5_longest_29 : decode cX5_longest 29 = .ok (.iload_n 1, 1) := by decide +kernel
theorem dX5_longest_30 : decode cX5_longest 30 = .ok (.invokevirtual 192, 3) := by decide +kernel
theorem dX5_longest_33 : decode cX5_longest 33 = .ok (.ireturn, 1) := by decide +kernel
theorem dX5_pattern_0 : decode cX5_pattern 0 = .ok (.iload_n 1, 1) := by decide +kernel
theorem dX5_pattern_1 : decode cX5_pattern 1 = .ok (.iconst 1, 1) := by decide +kernel
theorem dX5_pattern_2 : decode cX5_pattern 2 = .ok (.bipush 8, 2) := by decide +kernel
theorem dX5_pattern_4 : decode cX5_pattern 4 = .ok (.invokestatic 53, 3) := by decide +kernel
theorem dX5_pattern_7 : decode cX5_pattern 7 = .ok (.ifCond .eq 13, 3) := by decide +kernel
theorem dX5_pattern_10 : decode cX5_pattern 10 = .ok (.new 57, 3) := by decide +kernel
theorem dX5_pattern_13 : decode cX5_pattern 13 = .ok (.dup, 1) := by decide +kernel
theorem dX5_pattern_14 : decode cX5_pattern 14 = .ok (.ldc 195, 2) := by decide +kernel
theorem dX5_pattern_16 : decode cX5_pattern 16 = .ok (.invokespecial 61, 3) := by decide +kernel
theorem dX5_pattern_19 : decode cX5_pattern 19 = .ok (.athrow, 1) := by decide +kernel
theorem dX5_pattern_20 : decode cX5_pattern 20 = .ok (.iload_n 1, 1) := by decide +kernel
theorem dX5_pattern_21 : decode cX5_pattern 21 = .ok (.iload_n 2, 1) := by decide +kernel
theorem dX5_pattern_22 : decode cX5_pattern 22 = .ok (.invokestatic 197, 3) := by decide +kernel
theorem dX5_pattern_25 : decode cX5_pattern 25 = .ok (.ifCond .ne 13, 3) := by decide +kernel
theorem dX5_pattern_28 : decode cX5_pattern 28 = .ok (.new 57, 3) := by decide +kernel
theorem dX5_pattern_31 : decode cX5_pattern 31 = .ok (.dup, 1) := by decide +kernel
theorem dX5_pattern_32 : decode cX5_pattern 32 = .ok (.ldc 201, 2) := by decide +kernel
theorem dX5_pattern_34 : decode cX5_pattern 34 = .ok (.invokespecial 61, 3) := by decide +kernel
theorem dX5_pattern_37 : decode cX5_pattern 37 = .ok (.athrow, 1) := by decide +kernel
theorem dX5_pattern_38 : decode cX5_pattern 38 = .ok (.aload_n 0, 1) := by decide +kernel
theorem dX5_pattern_39 : decode cX5_pattern 39 = .ok (.getfield 19, 3) := by decide +kernel
theorem dX5_pattern_42 : decode cX5_pattern 42 = .ok (.getfield 100, 3) := by decide +kernel
theorem dX5_pattern_45 : decode cX5_pattern 45 = .ok (.getfield 142, 3) := by decide +kernel
theorem dX5_pattern_48 : decode cX5_pattern 48 = .ok (.iload_n 1, 1) := by decide +kernel
theorem dX5_pattern_49 : decode cX5_pattern 49 = .ok (.iload_n 2, 1) := by decide +kernel
theorem dX5_pattern_50 : decode cX5_pattern 50 = .ok (.invokevirtual 203, 3) := by decide +kernel
theorem dX5_pattern_53 : decode cX5_pattern 53 = .ok (.ireturn, 1) := by decide +kernel
theorem dX5_rain_0 : decode cX5_rain 0 = .ok (.iload_n 1, 1) := by decide +kernel
theorem dX5_rain_1 : decode cX5_rain 1 = .ok (.iconst 0, 1) := by decide +kernel
theorem dX5_rain_2 : decode cX5_rain 2 = .ok (.iconst 2, 1) := by decide +kernel
theorem dX5_rain_3 : decode cX5_rain 3 = .ok (.invokestatic 53, 3) := by decide +kernel
theorem dX5_rain_6 : decode cX5_rain 6 = .ok (.ifCond .eq 13, 3) := by decide +kernel
theorem dX5_rain_9 : decode cX5_rain 9 = .ok (.new 57, 3) := by decide +kernel
theorem dX5_rain_12 : decode cX5_rain 12 = .ok (.dup, 1) := by decide +kernel
theorem dX5_rain_13 : decode cX5_rain 13 = .ok (.ldc 207, 2) := by decide +kernel
theorem dX5_rain_15 : decode cX5_rain 15 = .ok (.invokespecial 61, 3) := by decide +kernel
theorem dX5_rain_18 : decode cX5_rain 18 = .ok (.athrow, 1) := by decide +kernel
theorem dX5_rain_19 : decode cX5_rain 19 = .ok (.aload_n 0, 1) := by decide +kernel
theorem dX5_rain_20 : decode cX5_rain 20 = .ok (.getfield 19, 3) := by decide +kernel
theorem dX5_rain_23 : decode cX5_rain 23 = .ok (.getfield 109, 3) := by decide +kernel
theorem dX5_rain_26 : decode cX5_rain 26 = .ok (.iload_n 1, 1) := by decide +kernel
theorem dX5_rain_27 : decode cX5_rain 27 = .ok (.invokevirtual 209, 3) := by decide +kernel
theorem dX5_rain_30 : decode cX5_rain 30 = .ok (.lreturn, 1) := by decide +kernel
theorem dX5_trueRain_0 : decode cX5_trueRain 0 = .ok (.aload_n 0, 1) := by decide +kernel
theorem dX5_trueRain_1 : decode cX5_trueRain 1 = .ok (.getfield 19, 3) := by decide +kernel
theorem dX5_trueRain_4 : decode cX5_trueRain 4 = .ok (.getfield 100, 3) := by decide +kernel
theorem dX5_trueRain_7 : decode cX5_trueRain 7 = .ok (.getfield 213, 3) := by decide +kernel
theorem dX5_trueRain_10 : decode cX5_trueRain 10 = .ok (.lreturn, 1) := by decide +kernel
theorem dX5_drop_0 : decode cX5_drop 0 = .ok (.iload_n 1, 1) := by decide +kernel
theorem dX5_drop_1 : decode cX5_drop 1 = .ok (.iload_n 2, 1) := by decide +kernel
theorem dX5_drop_2 : decode cX5_drop 2 = .ok (.invokestatic 217, 3) := by decide +kernel
theorem dX5_drop_5 : decode cX5_drop 5 = .ok (.ifCond .ne 13, 3) := by decide +kernel
theorem dX5_drop_8 : decode cX5_drop 8 = .ok (.new 57, 3) := by decide +kernel
theorem dX5_drop_11 : decode cX5_drop 11 = .ok (.dup, 1) := by decide +kernel
theorem dX5_drop_12 : decode cX5_drop 12 = .ok (.ldc 220, 2) := by decide +kernel
theorem dX5_drop_14 : decode cX5_drop 14 = .ok (.invokespecial 61, 3) := by decide +kernel
theorem dX5_drop_17 : decode cX5_drop 17 = .ok (.athrow, 1) := by decide +kernel
theorem dX5_drop_18 : decode cX5_drop 18 = .ok (.aload_n 0, 1) := by decide +kernel
theorem dX5_drop_19 : decode cX5_drop 19 = .ok (.invokevirtual 222, 3) := by decide +kernel
theorem dX5_drop_22 : decode cX5_drop 22 = .ok (.aload_n 0, 1) := by decide +kernel
theorem dX5_drop_23 : decode cX5_drop 23 = .ok (.getfield 19, 3) := by decide +kernel
theorem dX5_drop_26 : decode cX5_drop 26 = .ok (.iload_n 1, 1) := by decide +kernel
theorem dX5_drop_27 : decode cX5_drop 27 = .ok (.iload_n 2, 1) := by decide +kernel
theorem dX5_drop_28 : decode cX5_drop 28 = .ok (.invokevirtual 225, 3) := by decide +kernel
theorem dX5_drop_31 : decode cX5_drop 31 = .ok (.ireturn, 1) := by decide +kernel
theorem dX5_pass_0 : decode cX5_pass 0 = .ok (.iload_n 1, 1) := by decide +kernel
theorem dX5_pass_1 : decode cX5_pass 1 = .ok (.iconst 1, 1) := by decide +kernel
theorem dX5_pass_2 : decode cX5_pass 2 = .ok (.bipush 99, 2) := by decide +kernel
theorem dX5_pass_4 : decode cX5_pass 4 = .ok (.invokestatic 53, 3) := by decide +kernel
theorem dX5_pass_7 : decode cX5_pass 7 = .ok (.ifCond .eq 13, 3) := by decide +kernel
theorem dX5_pass_10 : decode cX5_pass 10 = .ok (.new 57, 3) := by decide +kernel
theorem dX5_pass_13 : decode cX5_pass 13 = .ok (.dup, 1) := by decide +kernel
theorem dX5_pass_14 : decode cX5_pass 14 = .ok (.ldc 228, 2) := by decide +kernel
theorem dX5_pass_16 : decode cX5_pass 16 = .ok (.invokespecial 61, 3) := by decide +kernel
theorem dX5_pass_19 : decode cX5_pass 19 = .ok (.athrow, 1) := by decide +kernel
theorem dX5_pass_20 : decode cX5_pass 20 = .ok (.aload_n 0, 1) := by decide +kernel
theorem dX5_pass_21 : decode cX5_pass 21 = .ok (.invokevirtual 222, 3) := by decide +kernel
theorem dX5_pass_24 : decode cX5_pass 24 = .ok (.aload_n 0, 1) := by decide +kernel
theorem dX5_pass_25 : decode cX5_pass 25 = .ok (.getfield 19, 3) := by decide +kernel
theorem dX5_pass_28 : decode cX5_pass 28 = .ok (.getfield 109, 3) := by decide +kernel
theorem dX5_pass_31 : decode cX5_pass 31 = .ok (.iload_n 1, 1) := by decide +kernel
theorem dX5_pass_32 : decode cX5_pass 32 = .ok (.invokevirtual 230, 3) := by decide +kernel
theorem dX5_pass_35 : decode cX5_pass 35 = .ok (.aload_n 0, 1) := by decide +kernel
theorem dX5_pass_36 : decode cX5_pass 36 = .ok (.getfield 19, 3) := by decide +kernel
theorem dX5_pass_39 : decode cX5_pass 39 = .ok (.getfield 109, 3) := by decide +kernel
theorem dX5_pass_42 : decode cX5_pass 42 = .ok (.aload_n 0, 1) := by decide +kernel
theorem dX5_pass_43 : decode cX5_pass 43 = .ok (.getfield 19, 3) := by decide +kernel
theorem dX5_pass_46 : decode cX5_pass 46 = .ok (.getfield 109, 3) := by decide +kernel
theorem dX5_pass_49 : decode cX5_pass 49 = .ok (.getfield 113, 3) := by decide +kernel
theorem dX5_pass_52 : decode cX5_pass 52 = .ok (.invokevirtual 132, 3) := by decide +kernel
theorem dX5_pass_55 : decode cX5_pass 55 = .ok (.ireturn, 1) := by decide +kernel
theorem dX5_set_0 : decode cX5_set 0 = .ok (.iload_n 1, 1) := by decide +kernel
theorem dX5_set_1 : decode cX5_set 1 = .ok (.iload_n 2, 1) := by decide +kernel
theorem dX5_set_2 : decode cX5_set 2 = .ok (.invokestatic 233, 3) := by decide +kernel
theorem dX5_set_5 : decode cX5_set 5 = .ok (.ifCond .ne 13, 3) := by decide +kernel
theorem dX5_set_8 : decode cX5_set 8 = .ok (.new 57, 3) := by decide +kernel
theorem dX5_set_11 : decode cX5_set 11 = .ok (.dup, 1) := by decide +kernel
theorem dX5_set_12 : decode cX5_set 12 = .ok (.ldc 236, 2) := by decide +kernel
theorem dX5_set_14 : decode cX5_set 14 = .ok (.invokespecial 61, 3) := by decide +kernel
theorem dX5_set_17 : decode cX5_set 17 = .ok (.athrow, 1) := by decide +kernel
theorem dX5_set_18 : decode cX5_set 18 = .ok (.aload_n 0, 1) := by decide +kernel
theorem dX5_set_19 : decode cX5_set 19 = .ok (.invokevirtual 222, 3) := by decide +kernel
theorem dX5_set_22 : decode cX5_set 22 = .ok (.aload_n 0, 1) := by decide +kernel
theorem dX5_set_23 : decode cX5_set 23 = .ok (.getfield 19, 3) := by decide +kernel
theorem dX5_set_26 : decode cX5_set 26 = .ok (.getfield 109, 3) := by decide +kernel
theorem dX5_set_29 : decode cX5_set 29 = .ok (.getfield 152, 3) := by decide +kernel
theorem dX5_set_32 : decode cX5_set 32 = .ok (.iload_n 1, 1) := by decide +kernel
theorem dX5_set_33 : decode cX5_set 33 = .ok (.iaload, 1) := by decide +kernel
theorem dX5_set_34 : decode cX5_set 34 = .ok (.istore_n 3, 1) := by decide +kernel
theorem dX5_set_35 : decode cX5_set 35 = .ok (.aload_n 0, 1) := by decide +kernel
theorem dX5_set_36 : decode cX5_set 36 = .ok (.getfield 19, 3) := by decide +kernel
theorem dX5_set_39 : decode cX5_set 39 = .ok (.getfield 109, 3) := by decide +kernel
theorem dX5_set_42 : decode cX5_set 42 = .ok (.getfield 152, 3) := by decide +kernel
theorem dX5_set_45 : decode cX5_set 45 = .ok (.iload_n 1, 1) := by decide +kernel
theorem dX5_set_46 : decode cX5_set 46 = .ok (.iload_n 2, 1) := by decide +kernel
theorem dX5_set_47 : decode cX5_set 47 = .ok (.iastore, 1) := by decide +kernel
theorem dX5_set_48 : decode cX5_set 48 = .ok (.iload_n 3, 1) := by decide +kernel
theorem dX5_set_49 : decode cX5_set 49 = .ok (.ireturn, 1) := by decide +kernel
theorem dX5_setBorder_0 : decode cX5_setBorder 0 = .ok (.iload_n 1, 1) := by decide +kernel
theorem dX5_setBorder_1 : decode cX5_setBorder 1 = .ok (.iconst 1, 1) := by decide +kernel
theorem dX5_setBorder_2 : decode cX5_setBorder 2 = .ok (.bipush 7, 2) := by decide +kernel
theorem dX5_setBorder_4 : decode cX5_setBorder 4 = .ok (.invokestatic 53, 3) := by decide +kernel
theorem dX5_setBorder_7 : decode cX5_setBorder 7 = .ok (.ifCond .eq 13, 3) := by decide +kernel
theorem dX5_setBorder_10 : decode cX5_setBorder 10 = .ok (.new 155, 3) := by decide +kernel
theorem dX5_setBorder_13 : decode cX5_setBorder 13 = .ok (.dup, 1) := by decide +kernel
theorem dX5_setBorder_14 : decode cX5_setBorder 14 = .ok (.ldc 238, 2) := by decide +kernel
theorem dX5_setBorder_16 : decode cX5_setBorder 16 = .ok (.invokespecial 159, 3) := by decide +kernel
theorem dX5_setBorder_19 : decode cX5_setBorder 19 = .ok (.athrow, 1) := by decide +kernel
theorem dX5_setBorder_20 : decode cX5_setBorder 20 = .ok (.iload_n 2, 1) := by decide +kernel
theorem dX5_setBorder_21 : decode cX5_setBorder 21 = .ok (.iconst 1, 1) := by decide +kernel
theorem dX5_setBorder_22 : decode cX5_setBorder 22 = .ok (.sipush 5000, 3) := by decide +kernel
theorem dX5_setBorder_25 : decode cX5_setBorder 25 = .ok (.invokestatic 53, 3) := by decide +kernel
theorem dX5_setBorder_28 : decode cX5_setBorder 28 = .ok (.ifCond .eq 13, 3) := by decide +kernel
theorem dX5_setBorder_31 : decode cX5_setBorder 31 = .ok (.new 57, 3) := by decide +kernel
theorem dX5_setBorder_34 : decode cX5_setBorder 34 = .ok (.dup, 1) := by decide +kernel
theorem dX5_setBorder_35 : decode cX5_setBorder 35 = .ok (.ldc 240, 2) := by decide +kernel
theorem dX5_setBorder_37 : decode cX5_setBorder 37 = .ok (.invokespecial 61, 3) := by decide +kernel
theorem dX5_setBorder_40 : decode cX5_setBorder 40 = .ok (.athrow, 1) := by decide +kernel
theorem dX5_setBorder_41 : decode cX5_setBorder 41 = .ok (.aload_n 0, 1) := by decide +kernel
theorem dX5_setBorder_42 : decode cX5_setBorder 42 = .ok (.getfield 19, 3) := by decide +kernel
theorem dX5_setBorder_45 : decode cX5_setBorder 45 = .ok (.getfield 109, 3) := by decide +kernel
theorem dX5_setBorder_48 : decode cX5_setBorder 48 = .ok (.iload_n 1, 1) := by decide +kernel
theorem dX5_setBorder_49 : decode cX5_setBorder 49 = .ok (.iload_n 2, 1) := by decide +kernel
theorem dX5_setBorder_50 : decode cX5_setBorder 50 = .ok (.invokevirtual 242, 3) := by decide +kernel
theorem dX5_setBorder_53 : decode cX5_setBorder 53 = .ok (.ifCond .ne 13, 3) := by decide +kernel
theorem dX5_setBorder_56 : decode cX5_setBorder 56 = .ok (.new 68, 3) := by decide +kernel
theorem dX5_setBorder_59 : decode cX5_setBorder 59 = .ok (.dup, 1) := by decide +kernel
theorem dX5_setBorder_60 : decode cX5_setBorder 60 = .ok (.ldc 245, 2) := by decide +kernel
theorem dX5_setBorder_62 : decode cX5_setBorder 62 = .ok (.invokespecial 72, 3) := by decide +kernel
theorem dX5_setBorder_65 : decode cX5_setBorder 65 = .ok (.athrow, 1) := by decide +kernel
theorem dX5_setBorder_66 : decode cX5_setBorder 66 = .ok (.aload_n 0, 1) := by decide +kernel
theorem dX5_setBorder_67 : decode cX5_setBorder 67 = .ok (.invokevirtual 222, 3) := by decide +kernel
theorem dX5_setBorder_70 : decode cX5_setBorder 70 = .ok (.aload_n 0, 1) := by decide +kernel
theorem dX5_setBorder_71 : decode cX5_setBorder 71 = .ok (.getfield 19, 3) := by decide +kernel
theorem dX5_setBorder_74 : decode cX5_setBorder 74 = .ok (.getfield 109, 3) := by decide +kernel
theorem dX5_setBorder_77 : decode cX5_setBorder 77 = .ok (.getfield 247, 3) := by decide +kernel
theorem dX5_setBorder_80 : decode cX5_setBorder 80 = .ok (.iload_n 1, 1) := by decide +kernel
theorem dX5_setBorder_81 : decode cX5_setBorder 81 = .ok (.iaload, 1) := by decide +kernel
theorem dX5_setBorder_82 : decode cX5_setBorder 82 = .ok (.istore_n 3, 1) := by decide +kernel
theorem dX5_setBorder_83 : decode cX5_setBorder 83 = .ok (.aload_n 0, 1) := by decide +kernel
theorem dX5_setBorder_84 : decode cX5_setBorder 84 = .ok (.getfield 19, 3) := by decide +kernel
theorem dX5_setBorder_87 : decode cX5_setBorder 87 = .ok (.getfield 109, 3) := by decide +kernel
theorem dX5_setBorder_90 : decode cX5_setBorder 90 = .ok (.getfield 247, 3) := by decide +kernel
theorem dX5_setBorder_93 : decode cX5_setBorder 93 = .ok (.iload_n 1, 1) := by decide +kernel
theorem dX5_setBorder_94 : decode cX5_setBorder 94 = .ok (.iload_n 2, 1) := by decide +kernel
theorem dX5_setBorder_95 : decode cX5_setBorder 95 = .ok (.iastore, 1) := by decide +kernel
theorem dX5_setBorder_96 : decode cX5_setBorder 96 = .ok (.iload_n 3, 1) := by decide +kernel
theorem dX5_setBorder_97 : decode cX5_setBorder 97 = .ok (.ireturn, 1) := by decide +kernel
theorem dX5_empty_0 : decode cX5_empty 0 = .ok (.aload_n 0, 1) := by decide +kernel
theorem dX5_empty_1 : decode cX5_empty 1 = .ok (.invokevirtual 222, 3) := by decide +kernel
theorem dX5_empty_4 : decode cX5_empty 4 = .ok (.aload_n 0, 1) := by decide +kernel
theorem dX5_empty_5 : decode cX5_empty 5 = .ok (.getfield 19, 3) := by decide +kernel
theorem dX5_empty_8 : decode cX5_empty 8 = .ok (.getfield 109, 3) := by decide +kernel
theorem dX5_empty_11 : decode cX5_empty 11 = .ok (.getfield 121, 3) := by decide +kernel
theorem dX5_empty_14 : decode cX5_empty 14 = .ok (.invokestatic 125, 3) := by decide +kernel
theorem dX5_empty_17 : decode cX5_empty 17 = .ok (.istore_n 1, 1) := by decide +kernel
theorem dX5_empty_18 : decode cX5_empty 18 = .ok (.aload_n 0, 1) := by decide +kernel
theorem dX5_empty_19 : decode cX5_empty 19 = .ok (.getfield 19, 3) := by decide +kernel
theorem dX5_empty_22 : decode cX5_empty 22 = .ok (.getfield 109, 3) := by decide +kernel
theorem dX5_empty_25 : decode cX5_empty 25 = .ok (.invokevirtual 250, 3) := by decide +kernel
theorem dX5_empty_28 : decode cX5_empty 28 = .ok (.iload_n 1, 1) := by decide +kernel
theorem dX5_empty_29 : decode cX5_empty 29 = .ok (.ireturn, 1) := by decide +kernel
theorem dX5_undo_0 : decode cX5_undo 0 = .ok (.aload_n 0, 1) := by decide +kernel
theorem dX5_undo_1 : decode cX5_undo 1 = .ok (.getfield 37, 3) := by decide +kernel
theorem dX5_undo_4 : decode cX5_undo 4 = .ok (.iconst 1, 1) := by decide +kernel
theorem dX5_undo_5 : decode cX5_undo 5 = .ok (.if_icmp .ge 13, 3) := by decide +kernel
theorem dX5_undo_8 : decode cX5_undo 8 = .ok (.new 68, 3) := by decide +kernel
theorem dX5_undo_11 : decode cX5_undo 11 = .ok (.dup, 1) := by decide +kernel
theorem dX5_undo_12 : decode cX5_undo 12 = .ok (.ldc 253, 2) := by decide +kernel
theorem dX5_undo_14 : decode cX5_undo 14 = .ok (.invokespecial 72, 3) := by decide +kernel
theorem dX5_undo_17 : decode cX5_undo 17 = .ok (.athrow, 1) := by decide +kernel
theorem dX5_undo_18 : decode cX5_undo 18 = .ok (.aload_n 0, 1) := by decide +kernel
theorem dX5_undo_19 : decode cX5_undo 19 = .ok (.aload_n 0, 1) := by decide +kernel
theorem dX5_undo_20 : decode cX5_undo 20 = .ok (.getfield 33, 3) := by decide +kernel
theorem dX5_undo_23 : decode cX5_undo 23 = .ok (.ifCond .le 12, 3) := by decide +kernel
theorem dX5_undo_26 : decode cX5_undo 26 = .ok (.aload_n 0, 1) := by decide +kernel
theorem dX5_undo_27 : decode cX5_undo 27 = .ok (.getfield 33, 3) := by decide +kernel
theorem dX5_undo_30 : decode cX5_undo 30 = .ok (.iconst 1, 1) := by decide +kernel
theorem dX5_undo_31 : decode cX5_undo 31 = .ok (.isub, 1) := by decide +kernel
theorem dX5_undo_32 : decode cX5_undo 32 = .ok (.goto 5, 3) := by decide +kernel
theorem dX5_undo_35 : decode cX5_undo 35 = .ok (.bipush 13, 2) := by decide +kernel
theorem dX5_undo_37 : decode cX5_undo 37 = .ok (.putfield 33, 3) := by decide +kernel
theorem dX5_undo_40 : decode cX5_undo 40 = .ok (.aload_n 0, 1) := by decide +kernel
theorem dX5_undo_41 : decode cX5_undo 41 = .ok (.dup, 1) := by decide +kernel
theorem dX5_undo_42 : decode cX5_undo 42 = .ok (.getfield 37, 3) := by decide +kernel
theorem dX5_undo_45 : decode cX5_undo 45 = .ok (.iconst 1, 1) := by decide +kernel
theorem dX5_undo_46 : decode cX5_undo 46 = .ok (.isub, 1) := by decide +kernel
theorem dX5_undo_47 : decode cX5_undo 47 = .ok (.putfield 37, 3) := by decide +kernel
theorem dX5_undo_50 : decode cX5_undo 50 = .ok (.aload_n 0, 1) := by decide +kernel
theorem dX5_undo_51 : decode cX5_undo 51 = .ok (.getfield 19, 3) := by decide +kernel
theorem dX5_undo_54 : decode cX5_undo 54 = .ok (.aload_n 0, 1) := by decide +kernel
theorem dX5_undo_55 : decode cX5_undo 55 = .ok (.getfield 29, 3) := by decide +kernel
theorem dX5_undo_58 : decode cX5_undo 58 = .ok (.aload_n 0, 1) := by decide +kernel
theorem dX5_undo_59 : decode cX5_undo 59 = .ok (.getfield 33, 3) := by decide +kernel
theorem dX5_undo_62 : decode cX5_undo 62 = .ok (.aaload, 1) := by decide +kernel
theorem dX5_undo_63 : decode cX5_undo 63 = .ok (.invokevirtual 86, 3) := by decide +kernel
theorem dX5_undo_66 : decode cX5_undo 66 = .ok (.aload_n 0, 1) := by decide +kernel
theorem dX5_undo_67 : decode cX5_undo 67 = .ok (.getfield 37, 3) := by decide +kernel
theorem dX5_undo_70 : decode cX5_undo 70 = .ok (.ireturn, 1) := by decide +kernel
theorem dX5_wouldBe_0 : decode cX5_wouldBe 0 = .ok (.iload_n 1, 1) := by decide +kernel
theorem dX5_wouldBe_1 : decode cX5_wouldBe 1 = .ok (.iload_n 2, 1) := by decide +kernel
theorem dX5_wouldBe_2 : decode cX5_wouldBe 2 = .ok (.invokestatic 217, 3) := by decide +kernel
theorem dX5_wouldBe_5 : decode cX5_wouldBe 5 = .ok (.ifCond .ne 13, 3) := by decide +kernel
theorem dX5_wouldBe_8 : decode cX5_wouldBe 8 = .ok (.new 57, 3) := by decide +kernel
theorem dX5_wouldBe_11 : decode cX5_wouldBe 11 = .ok (.dup, 1) := by decide +kernel
theorem dX5_wouldBe_12 : decode cX5_wouldBe 12 = .ok (.ldc 220, 2) := by decide +kernel
theorem dX5_wouldBe_14 : decode cX5_wouldBe 14 = .ok (.invokespecial 61, 3) := by decide +kernel
theorem dX5_wouldBe_17 : decode cX5_wouldBe 17 = .ok (.athrow, 1) := by decide +kernel
theorem dX5_wouldBe_18 : decode cX5_wouldBe 18 = .ok (.aload_n 0, 1) := by decide +kernel
theorem dX5_wouldBe_19 : decode cX5_wouldBe 19 = .ok (.getfield 19, 3) := by decide +kernel
theorem dX5_wouldBe_22 : decode cX5_wouldBe 22 = .ok (.getfield 109, 3) := by decide +kernel
theorem dX5_wouldBe_25 : decode cX5_wouldBe 25 = .ok (.aload_n 0, 1) := by decide +kernel
theorem dX5_wouldBe_26 : decode cX5_wouldBe 26 = .ok (.getfield 19, 3) := by decide +kernel
theorem dX5_wouldBe_29 : decode cX5_wouldBe 29 = .ok (.getfield 109, 3) := by decide +kernel
theorem dX5_wouldBe_32 : decode cX5_wouldBe 32 = .ok (.getfield 113, 3) := by decide +kernel
theorem dX5_wouldBe_35 : decode cX5_wouldBe 35 = .ok (.iload_n 1, 1) := by decide +kernel
theorem dX5_wouldBe_36 : decode cX5_wouldBe 36 = .ok (.iadd, 1) := by decide +kernel
theorem dX5_wouldBe_37 : decode cX5_wouldBe 37 = .ok (.aload_n 0, 1) := by decide +kernel
theorem dX5_wouldBe_38 : decode cX5_wouldBe 38 = .ok (.getfield 19, 3) := by decide +kernel
theorem dX5_wouldBe_41 : decode cX5_wouldBe 41 = .ok (.getfield 109, 3) := by decide +kernel
theorem dX5_wouldBe_44 : decode cX5_wouldBe 44 = .ok (.iload_n 2, 1) := by decide +kernel
theorem dX5_wouldBe_45 : decode cX5_wouldBe 45 = .ok (.invokevirtual 255, 3) := by decide +kernel
theorem dX5_wouldBe_48 : decode cX5_wouldBe 48 = .ok (.invokevirtual 258, 3) := by decide +kernel
theorem dX5_wouldBe_51 : decode cX5_wouldBe 51 = .ok (.ireturn, 1) := by decide +kernel
theorem dX5_leastSize_0 : decode cX5_leastSize 0 = .ok (.iload_n 1, 1) := by decide +kernel
theorem dX5_leastSize_1 : decode cX5_leastSize 1 = .ok (.iconst 0, 1) := by decide +kernel
theorem dX5_leastSize_2 : decode cX5_leastSize 2 = .ok (.bipush 99, 2) := by decide +kernel
theorem dX5_leastSize_4 : decode cX5_leastSize 4 = .ok (.invokestatic 53, 3) := by decide +kernel
theorem dX5_leastSize_7 : decode cX5_leastSize 7 = .ok (.ifCond .eq 14, 3) := by decide +kernel
theorem dX5_leastSize_10 : decode cX5_leastSize 10 = .ok (.new 57, 3) := by decide +kernel
theorem dX5_leastSize_13 : decode cX5_leastSize 13 = .ok (.dup, 1) := by decide +kernel
theorem dX5_leastSize_14 : decode cX5_leastSize 14 = .ok (.ldc_w 261, 3) := by decide +kernel
theorem dX5_leastSize_17 : decode cX5_leastSize 17 = .ok (.invokespecial 61, 3) := by decide +kernel
theorem dX5_leastSize_20 : decode cX5_leastSize 20 = .ok (.athrow, 1) := by decide +kernel
theorem dX5_leastSize_21 : decode cX5_leastSize 21 = .ok (.aload_n 0, 1) := by decide +kernel
theorem dX5_leastSize_22 : decode cX5_leastSize 22 = .ok (.getfield 19, 3) := by decide +kernel
theorem dX5_leastSize_25 : decode cX5_leastSize 25 = .ok (.getfield 109, 3) := by decide +kernel
theorem dX5_leastSize_28 : decode cX5_leastSize 28 = .ok (.astore_n 2, 1) := by decide +kernel
theorem dX5_leastSize_29 : decode cX5_leastSize 29 = .ok (.iconst 1, 1) := by decide +kernel
theorem dX5_leastSize_30 : decode cX5_leastSize 30 = .ok (.istore_n 3, 1) := by decide +kernel
theorem dX5_leastSize_31 : decode cX5_leastSize 31 = .ok (.iload_n 3, 1) := by decide +kernel
theorem dX5_leastSize_32 : decode cX5_leastSize 32 = .ok (.bipush 60, 2) := by decide +kernel
theorem dX5_leastSize_34 : decode cX5_leastSize 34 = .ok (.if_icmp .gt 29, 3) := by decide +kernel
theorem dX5_leastSize_37 : decode cX5_leastSize 37 = .ok (.aload_n 2, 1) := by decide +kernel
theorem dX5_leastSize_38 : decode cX5_leastSize 38 = .ok (.aload_n 2, 1) := by decide +kernel
theorem dX5_leastSize_39 : decode cX5_leastSize 39 = .ok (.getfield 113, 3) := by decide +kernel
theorem dX5_leastSize_42 : decode cX5_leastSize 42 = .ok (.iload_n 1, 1) := by decide +kernel
theorem dX5_leastSize_43 : decode cX5_leastSize 43 = .ok (.iadd, 1) := by decide +kernel
theorem dX5_leastSize_44 : decode cX5_leastSize 44 = .ok (.aload_n 2, 1) := by decide +kernel
theorem dX5_leastSize_45 : decode cX5_leastSize 45 = .ok (.iload_n 3, 1) := by decide +kernel
theorem dX5_leastSize_46 : decode cX5_leastSize 46 = .ok (.invokevirtual 255, 3) := by decide +kernel
theorem dX5_leastSize_49 : decode cX5_leastSize 49 = .ok (.invokevirtual 258, 3) := by decide +kernel
theorem dX5_leastSize_52 : decode cX5_leastSize 52 = .ok (.ifCond .ne 5, 3) := by decide +kernel
theorem dX5_leastSize_55 : decode cX5_leastSize 55 = .ok (.iload_n 3, 1) := by decide +kernel
theorem dX5_leastSize_56 : decode cX5_leastSize 56 = .ok (.ireturn, 1) := by decide +kernel
theorem dX5_leastSize_57 : decode cX5_leastSize 57 = .ok (.iinc 3 1, 3) := by decide +kernel
theorem dX5_leastSize_60 : decode cX5_leastSize 60 = .ok (.goto (-29), 3) := by decide +kernel
theorem dX5_leastSize_63 : decode cX5_leastSize 63 = .ok (.bipush (-9), 2) := by decide +kernel
theorem dX5_leastSize_65 : decode cX5_leastSize 65 = .ok (.ireturn, 1) := by decide +kernel
theorem dX5_quietIn_0 : decode cX5_quietIn 0 = .ok (.iload_n 1, 1) := by decide +kernel
theorem dX5_quietIn_1 : decode cX5_quietIn 1 = .ok (.iconst 0, 1) := by decide +kernel
theorem dX5_quietIn_2 : decode cX5_quietIn 2 = .ok (.sipush 5000, 3) := by decide +kernel
theorem dX5_quietIn_5 : decode cX5_quietIn 5 = .ok (.invokestatic 53, 3) := by decide +kernel
theorem dX5_quietIn_8 : decode cX5_quietIn 8 = .ok (.ifCond .eq 14, 3) := by decide +kernel
theorem dX5_quietIn_11 : decode cX5_quietIn 11 = .ok (.new 57, 3) := by decide +kernel
theorem dX5_quietIn_14 : decode cX5_quietIn 14 = .ok (.dup, 1) := by decide +kernel
theorem dX5_quietIn_15 : decode cX5_quietIn 15 = .ok (.ldc_w 263, 3) := by decide +kernel
theorem dX5_quietIn_18 : decode cX5_quietIn 18 = .ok (.invokespecial 61, 3) := by decide +kernel
theorem dX5_quietIn_21 : decode cX5_quietIn 21 = .ok (.athrow, 1) := by decide +kernel
theorem dX5_quietIn_22 : decode cX5_quietIn 22 = .ok (.aload_n 0, 1) := by decide +kernel
theorem dX5_quietIn_23 : decode cX5_quietIn 23 = .ok (.getfield 19, 3) := by decide +kernel
theorem dX5_quietIn_26 : decode cX5_quietIn 26 = .ok (.getfield 109, 3) := by decide +kernel
theorem dX5_quietIn_29 : decode cX5_quietIn 29 = .ok (.astore_n 2, 1) := by decide +kernel
theorem dX5_quietIn_30 : decode cX5_quietIn 30 = .ok (.iconst 0, 1) := by decide +kernel
theorem dX5_quietIn_31 : decode cX5_quietIn 31 = .ok (.istore_n 3, 1) := by decide +kernel
theorem dX5_quietIn_32 : decode cX5_quietIn 32 = .ok (.iload_n 3, 1) := by decide +kernel
theorem dX5_quietIn_33 : decode cX5_quietIn 33 = .ok (.bipush 117, 2) := by decide +kernel
theorem dX5_quietIn_35 : decode cX5_quietIn 35 = .ok (.if_icmp .ge 25, 3) := by decide +kernel
theorem dX5_quietIn_38 : decode cX5_quietIn 38 = .ok (.aload_n 2, 1) := by decide +kernel
theorem dX5_quietIn_39 : decode cX5_quietIn 39 = .ok (.aload_n 2, 1) := by decide +kernel
theorem dX5_quietIn_40 : decode cX5_quietIn 40 = .ok (.getfield 113, 3) := by decide +kernel
theorem dX5_quietIn_43 : decode cX5_quietIn 43 = .ok (.iload_n 3, 1) := by decide +kernel
theorem dX5_quietIn_44 : decode cX5_quietIn 44 = .ok (.iadd, 1) := by decide +kernel
theorem dX5_quietIn_45 : decode cX5_quietIn 45 = .ok (.invokevirtual 132, 3) := by decide +kernel
theorem dX5_quietIn_48 : decode cX5_quietIn 48 = .ok (.iload_n 1, 1) := by decide +kernel
theorem dX5_quietIn_49 : decode cX5_quietIn 49 = .ok (.if_icmp .gt 5, 3) := by decide +kernel
theorem dX5_quietIn_52 : decode cX5_quietIn 52 = .ok (.iload_n 3, 1) := by decide +kernel
theorem dX5_quietIn_53 : decode cX5_quietIn 53 = .ok (.ireturn, 1) := by decide +kernel
theorem dX5_quietIn_54 : decode cX5_quietIn 54 = .ok (.iinc 3 1, 3) := by decide +kernel
theorem dX5_quietIn_57 : decode cX5_quietIn 57 = .ok (.goto (-25), 3) := by decide +kernel
theorem dX5_quietIn_60 : decode cX5_quietIn 60 = .ok (.bipush 117, 2) := by decide +kernel
theorem dX5_quietIn_62 : decode cX5_quietIn 62 = .ok (.ireturn, 1) := by decide +kernel
theorem dX5_replay_0 : decode cX5_replay 0 = .ok (.iconst 1, 1) := by decide +kernel
theorem dX5_replay_1 : decode cX5_replay 1 = .ok (.iload_n 1, 1) := by decide +kernel
theorem dX5_replay_2 : decode cX5_replay 2 = .ok (.invokestatic 233, 3) := by decide +kernel
theorem dX5_replay_5 : decode cX5_replay 5 = .ok (.ifCond .eq 20, 3) := by decide +kernel
theorem dX5_replay_8 : decode cX5_replay 8 = .ok (.iconst 2, 1) := by decide +kernel
theorem dX5_replay_9 : decode cX5_replay 9 = .ok (.iload_n 2, 1) := by decide +kernel
theorem dX5_replay_10 : decode cX5_replay 10 = .ok (.invokestatic 233, 3) := by decide +kernel
theorem dX5_replay_13 : decode cX5_replay 13 = .ok (.ifCond .eq 12, 3) := by decide +kernel
theorem dX5_replay_16 : decode cX5_replay 16 = .ok (.iload_n 3, 1) := by decide +kernel
theorem dX5_replay_17 : decode cX5_replay 17 = .ok (.iconst 0, 1) := by decide +kernel
theorem dX5_replay_18 : decode cX5_replay 18 = .ok (.iconst 3, 1) := by decide +kernel
theorem dX5_replay_19 : decode cX5_replay 19 = .ok (.invokestatic 53, 3) := by decide +kernel
theorem dX5_replay_22 : decode cX5_replay 22 = .ok (.ifCond .eq 14, 3) := by decide +kernel
theorem dX5_replay_25 : decode cX5_replay 25 = .ok (.new 57, 3) := by decide +kernel
theorem dX5_replay_28 : decode cX5_replay 28 = .ok (.dup, 1) := by decide +kernel
theorem dX5_replay_29 : decode cX5_replay 29 = .ok (.ldc_w 265, 3) := by decide +kernel
theorem dX5_replay_32 : decode cX5_replay 32 = .ok (.invokespecial 61, 3) := by decide +kernel
theorem dX5_replay_35 : decode cX5_replay 35 = .ok (.athrow, 1) := by decide +kernel
theorem dX5_replay_36 : decode cX5_replay 36 = .ok (.aload_n 0, 1) := by decide +kernel
theorem dX5_replay_37 : decode cX5_replay 37 = .ok (.iload_n 1, 1) := by decide +kernel
theorem dX5_replay_38 : decode cX5_replay 38 = .ok (.iload_n 2, 1) := by decide +kernel
theorem dX5_replay_39 : decode cX5_replay 39 = .ok (.iload_n 3, 1) := by decide +kernel
theorem dX5_replay_40 : decode cX5_replay 40 = .ok (.invokevirtual 267, 3) := by decide +kernel
theorem dX5_replay_43 : decode cX5_replay 43 = .ok (.ireturn, 1) := by decide +kernel
theorem dX5_bestWindow_0 : decode cX5_bestWindow 0 = .ok (.iload_n 1, 1) := by decide +kernel
theorem dX5_bestWindow_1 : decode cX5_bestWindow 1 = .ok (.iconst 0, 1) := by decide +kernel
theorem dX5_bestWindow_2 : decode cX5_bestWindow 2 = .ok (.iconst 2, 1) := by decide +kernel
theorem dX5_bestWindow_3 : decode cX5_bestWindow 3 = .ok (.invokestatic 53, 3) := by decide +kernel
theorem dX5_bestWindow_6 : decode cX5_bestWindow 6 = .ok (.ifCond .eq 13, 3) := by decide +kernel
theorem dX5_bestWindow_9 : decode cX5_bestWindow 9 = .ok (.new 57, 3) := by decide +kernel
theorem dX5_bestWindow_12 : decode cX5_bestWindow 12 = .ok (.dup, 1) := by decide +kernel
theorem dX5_bestWindow_13 : decode cX5_bestWindow 13 = .ok (.ldc 207, 2) := by decide +kernel
theorem dX5_bestWindow_15 : decode cX5_bestWindow 15 = .ok (.invokespecial 61, 3) := by decide +kernel
theorem dX5_bestWindow_18 : decode cX5_bestWindow 18 = .ok (.athrow, 1) := by decide +kernel
theorem dX5_bestWindow_19 : decode cX5_bestWindow 19 = .ok (.aload_n 0, 1) := by decide +kernel
theorem dX5_bestWindow_20 : decode cX5_bestWindow 20 = .ok (.getfield 19, 3) := by decide +kernel
theorem dX5_bestWindow_23 : decode cX5_bestWindow 23 = .ok (.getfield 100, 3) := by decide +kernel
theorem dX5_bestWindow_26 : decode cX5_bestWindow 26 = .ok (.invokevirtual 271, 3) := by decide +kernel
theorem dX5_bestWindow_29 : decode cX5_bestWindow 29 = .ok (.lstore_n 2, 1) := by decide +kernel
theorem dX5_bestWindow_30 : decode cX5_bestWindow 30 = .ok (.getstatic 275, 3) := by decide +kernel
theorem dX5_bestWindow_33 : decode cX5_bestWindow 33 = .ok (.iconst 1, 1) := by decide +kernel
theorem dX5_bestWindow_34 : decode cX5_bestWindow 34 = .ok (.iaload, 1) := by decide +kernel
theorem dX5_bestWindow_35 : decode cX5_bestWindow 35 = .ok (.istore 4, 2) := by decide +kernel
theorem dX5_bestWindow_37 : decode cX5_bestWindow 37 = .ok (.lconst 0, 1) := by decide +kernel
theorem dX5_bestWindow_38 : decode cX5_bestWindow 38 = .ok (.lstore 5, 2) := by decide +kernel
theorem dX5_bestWindow_40 : decode cX5_bestWindow 40 = .ok (.getstatic 275, 3) := by decide +kernel
theorem dX5_bestWindow_43 : decode cX5_bestWindow 43 = .ok (.iconst 1, 1) := by decide +kernel
theorem dX5_bestWindow_44 : decode cX5_bestWindow 44 = .ok (.iaload, 1) := by decide +kernel
theorem dX5_bestWindow_45 : decode cX5_bestWindow 45 = .ok (.istore 7, 2) := by decide +kernel
theorem dX5_bestWindow_47 : decode cX5_bestWindow 47 = .ok (.iload 7, 2) := by decide +kernel
theorem dX5_bestWindow_49 : decode cX5_bestWindow 49 = .ok (.getstatic 278, 3) := by decide +kernel
theorem dX5_bestWindow_52 : decode cX5_bestWindow 52 = .ok (.iconst 1, 1) := by decide +kernel
theorem dX5_bestWindow_53 : decode cX5_bestWindow 53 = .ok (.iaload, 1) := by decide +kernel
theorem dX5_bestWindow_54 : decode cX5_bestWindow 54 = .ok (.if_icmp .gt 83, 3) := by decide +kernel
theorem dX5_bestWindow_57 : decode cX5_bestWindow 57 = .ok (.aload_n 0, 1) := by decide +kernel
theorem dX5_bestWindow_58 : decode cX5_bestWindow 58 = .ok (.iload 7, 2) := by decide +kernel
theorem dX5_bestWindow_60 : decode cX5_bestWindow 60 = .ok (.aload_n 0, 1) := by decide +kernel
theorem dX5_bestWindow_61 : decode cX5_bestWindow 61 = .ok (.getfield 19, 3) := by decide +kernel
theorem dX5_bestWindow_64 : decode cX5_bestWindow 64 = .ok (.getfield 109, 3) := by decide +kernel
theorem dX5_bestWindow_67 : decode cX5_bestWindow 67 = .ok (.getfield 152, 3) := by decide +kernel
theorem dX5_bestWindow_70 : decode cX5_bestWindow 70 = .ok (.iconst 2, 1) := by decide +kernel
theorem dX5_bestWindow_71 : decode cX5_bestWindow 71 = .ok (.iaload, 1) := by decide +kernel
theorem dX5_bestWindow_72 : decode cX5_bestWindow 72 = .ok (.iconst 0, 1) := by decide +kernel
theorem dX5_bestWindow_73 : decode cX5_bestWindow 73 = .ok (.invokevirtual 267, 3) := by decide +kernel
theorem dX5_bestWindow_76 : decode cX5_bestWindow 76 = .ok (.pop, 1) := by decide +kernel
theorem dX5_bestWindow_77 : decode cX5_bestWindow 77 = .ok (.aload_n 0, 1) := by decide +kernel
theorem dX5_bestWindow_78 : decode cX5_bestWindow 78 = .ok (.getfield 26, 3) := by decide +kernel
theorem dX5_bestWindow_81 : decode cX5_bestWindow 81 = .ok (.getfield 109, 3) := by decide +kernel
theorem dX5_bestWindow_84 : decode cX5_bestWindow 84 = .ok (.invokevirtual 281, 3) := by decide +kernel
theorem dX5_bestWindow_87 : decode cX5_bestWindow 87 = .ok (.aload_n 0, 1) := by decide +kernel
theorem dX5_bestWindow_88 : decode cX5_bestWindow 88 = .ok (.getfield 26, 3) := by decide +kernel
theorem dX5_bestWindow_91 : decode cX5_bestWindow 91 = .ok (.getfield 109, 3) := by decide +kernel
theorem dX5_bestWindow_94 : decode cX5_bestWindow 94 = .ok (.iload_n 1, 1) := by decide +kernel
theorem dX5_bestWindow_95 : decode cX5_bestWindow 95 = .ok (.invokevirtual 209, 3) := by decide +kernel
theorem dX5_bestWindow_98 : decode cX5_bestWindow 98 = .ok (.lload_n 2, 1) := by decide +kernel
theorem dX5_bestWindow_99 : decode cX5_bestWindow 99 = .ok (.lsub, 1) := by decide +kernel
theorem dX5_bestWindow_100 : decode cX5_bestWindow 100 = .ok (.invokestatic 284, 3) := by decide +kernel
theorem dX5_bestWindow_103 : decode cX5_bestWindow 103 = .ok (.lstore 8, 2) := by decide +kernel
theorem dX5_bestWindow_105 : decode cX5_bestWindow 105 = .ok (.iload 7, 2) := by decide +kernel
theorem dX5_bestWindow_107 : decode cX5_bestWindow 107 = .ok (.getstatic 275, 3) := by decide +kernel
theorem dX5_bestWindow_110 : decode cX5_bestWindow 110 = .ok (.iconst 1, 1) := by decide +kernel
theorem dX5_bestWindow_111 : decode cX5_bestWindow 111 = .ok (.iaload, 1) := by decide +kernel
theorem dX5_bestWindow_112 : decode cX5_bestWindow 112 = .ok (.if_icmp .eq 11, 3) := by decide +kernel
theorem dX5_bestWindow_115 : decode cX5_bestWindow 115 = .ok (.lload 8, 2) := by decide +kernel
theorem dX5_bestWindow_117 : decode cX5_bestWindow 117 = .ok (.lload 5, 2) := by decide +kernel
theorem dX5_bestWindow_119 : decode cX5_bestWindow 119 = .ok (.lcmp, 1) := by decide +kernel
theorem dX5_bestWindow_120 : decode cX5_bestWindow 120 = .ok (.ifCond .ge 11, 3) := by decide +kernel
theorem dX5_bestWindow_123 : decode cX5_bestWindow 123 = .ok (.lload 8, 2) := by decide +kernel
theorem dX5_bestWindow_125 : decode cX5_bestWindow 125 = .ok (.lstore 5, 2) := by decide +kernel
theorem dX5_bestWindow_127 : decode cX5_bestWindow 127 = .ok (.iload 7, 2) := by decide +kernel
theorem dX5_bestWindow_129 : decode cX5_bestWindow 129 = .ok (.istore 4, 2) := by decide +kernel
theorem dX5_bestWindow_131 : decode cX5_bestWindow 131 = .ok (.iinc 7 1, 3) := by decide +kernel
theorem dX5_bestWindow_134 : decode cX5_bestWindow 134 = .ok (.goto (-87), 3) := by decide +kernel
theorem dX5_bestWindow_137 : decode cX5_bestWindow 137 = .ok (.iload 4, 2) := by decide +kernel
theorem dX5_bestWindow_139 : decode cX5_bestWindow 139 = .ok (.ireturn, 1) := by decide +kernel
theorem dX5_runScript_0 : decode cX5_runScript 0 = .ok (.iload_n 1, 1) := by decide +kernel
theorem dX5_runScript_1 : decode cX5_runScript 1 = .ok (.iconst 1, 1) := by decide +kernel
theorem dX5_runScript_2 : decode cX5_runScript 2 = .ok (.iconst 3, 1) := by decide +kernel
theorem dX5_runScript_3 : decode cX5_runScript 3 = .ok (.invokestatic 53, 3) := by decide +kernel
theorem dX5_runScript_6 : decode cX5_runScript 6 = .ok (.ifCond .eq 14, 3) := by decide +kernel
theorem dX5_runScript_9 : decode cX5_runScript 9 = .ok (.new 57, 3) := by decide +kernel
theorem dX5_runScript_12 : decode cX5_runScript 12 = .ok (.dup, 1) := by decide +kernel
theorem dX5_runScript_13 : decode cX5_runScript 13 = .ok (.ldc_w 290, 3) := by decide +kernel
theorem dX5_runScript_16 : decode cX5_runScript 16 = .ok (.invokespecial 61, 3) := by decide +kernel
theorem dX5_runScript_19 : decode cX5_runScript 19 = .ok (.athrow, 1) := by decide +kernel
theorem dX5_runScript_20 : decode cX5_runScript 20 = .ok (.lload_n 2, 1) := by decide +kernel
theorem dX5_runScript_21 : decode cX5_runScript 21 = .ok (.lconst 0, 1) := by decide +kernel
theorem dX5_runScript_22 : decode cX5_runScript 22 = .ok (.lcmp, 1) := by decide +kernel
theorem dX5_runScript_23 : decode cX5_runScript 23 = .ok (.ifCond .lt 13, 3) := by decide +kernel
theorem dX5_runScript_26 : decode cX5_runScript 26 = .ok (.lload_n 2, 1) := by decide +kernel
theorem dX5_runScript_27 : decode cX5_runScript 27 = .ok (.iload_n 1, 1) := by decide +kernel
theorem dX5_runScript_28 : decode cX5_runScript 28 = .ok (.invokestatic 292, 3) := by decide +kernel
theorem dX5_runScript_31 : decode cX5_runScript 31 = .ok (.lconst 0, 1) := by decide +kernel
theorem dX5_runScript_32 : decode cX5_runScript 32 = .ok (.lcmp, 1) := by decide +kernel
theorem dX5_runScript_33 : decode cX5_runScript 33 = .ok (.ifCond .eq 14, 3) := by decide +kernel
theorem dX5_runScript_36 : decode cX5_runScript 36 = .ok (.new 57, 3) := by decide +kernel
theorem dX5_runScript_39 : decode cX5_runScript 39 = .ok (.dup, 1) := by decide +kernel
theorem dX5_runScript_40 : decode cX5_runScript 40 = .ok (.ldc_w 296, 3) := by decide +kernel
theorem dX5_runScript_43 : decode cX5_runScript 43 = .ok (.invokespecial 61, 3) := by decide +kernel
theorem dX5_runScript_46 : decode cX5_runScript 46 = .ok (.athrow, 1) := by decide +kernel
theorem dX5_runScript_47 : decode cX5_runScript 47 = .ok (.aload_n 0, 1) := by decide +kernel
theorem dX5_runScript_48 : decode cX5_runScript 48 = .ok (.getfield 26, 3) := by decide +kernel
theorem dX5_runScript_51 : decode cX5_runScript 51 = .ok (.aload_n 0, 1) := by decide +kernel
theorem dX5_runScript_52 : decode cX5_runScript 52 = .ok (.getfield 19, 3) := by decide +kernel
theorem dX5_runScript_55 : decode cX5_runScript 55 = .ok (.invokevirtual 86, 3) := by decide +kernel
theorem dX5_runScript_58 : decode cX5_runScript 58 = .ok (.iconst 0, 1) := by decide +kernel
theorem dX5_runScript_59 : decode cX5_runScript 59 = .ok (.istore 4, 2) := by decide +kernel
theorem dX5_runScript_61 : decode cX5_runScript 61 = .ok (.iload 4, 2) := by decide +kernel
theorem dX5_runScript_63 : decode cX5_runScript 63 = .ok (.iload_n 1, 1) := by decide +kernel
theorem dX5_runScript_64 : decode cX5_runScript 64 = .ok (.if_icmp .ge 38, 3) := by decide +kernel
theorem dX5_runScript_67 : decode cX5_runScript 67 = .ok (.lload_n 2, 1) := by decide +kernel
theorem dX5_runScript_68 : decode cX5_runScript 68 = .ok (.iload_n 1, 1) := by decide +kernel
theorem dX5_runScript_69 : decode cX5_runScript 69 = .ok (.iconst 1, 1) := by decide +kernel
theorem dX5_runScript_70 : decode cX5_runScript 70 = .ok (.isub, 1) := by decide +kernel
theorem dX5_runScript_71 : decode cX5_runScript 71 = .ok (.iload 4, 2) := by decide +kernel
theorem dX5_runScript_73 : decode cX5_runScript 73 = .ok (.isub, 1) := by decide +kernel
theorem dX5_runScript_74 : decode cX5_runScript 74 = .ok (.invokestatic 292, 3) := by decide +kernel
theorem dX5_runScript_77 : decode cX5_runScript 77 = .ok (.ldc2_w 298, 3) := by decide +kernel
theorem dX5_runScript_80 : decode cX5_runScript 80 = .ok (.lrem, 1) := by decide +kernel
theorem dX5_runScript_81 : decode cX5_runScript 81 = .ok (.l2i, 1) := by decide +kernel
theorem dX5_runScript_82 : decode cX5_runScript 82 = .ok (.istore 5, 2) := by decide +kernel
theorem dX5_runScript_84 : decode cX5_runScript 84 = .ok (.aload_n 0, 1) := by decide +kernel
theorem dX5_runScript_85 : decode cX5_runScript 85 = .ok (.iload 5, 2) := by decide +kernel
theorem dX5_runScript_87 : decode cX5_runScript 87 = .ok (.invokevirtual 300, 3) := by decide +kernel
theorem dX5_runScript_90 : decode cX5_runScript 90 = .ok (.ifCond .ne 6, 3) := by decide +kernel
theorem dX5_runScript_93 : decode cX5_runScript 93 = .ok (.iload 4, 2) := by decide +kernel
theorem dX5_runScript_95 : decode cX5_runScript 95 = .ok (.ireturn, 1) := by decide +kernel
theorem dX5_runScript_96 : decode cX5_runScript 96 = .ok (.iinc 4 1, 3) := by decide +kernel
theorem dX5_runScript_99 : decode cX5_runScript 99 = .ok (.goto (-38), 3) := by decide +kernel
theorem dX5_runScript_102 : decode cX5_runScript 102 = .ok (.bipush (-9), 2) := by decide +kernel
theorem dX5_runScript_104 : decode cX5_runScript 104 = .ok (.ireturn, 1) := by decide +kernel
theorem dX5_simulate_0 : decode cX5_simulate 0 = .ok (.iload_n 3, 1) := by decide +kernel
theorem dX5_simulate_1 : decode cX5_simulate 1 = .ok (.iconst 1, 1) := by decide +kernel
theorem dX5_simulate_2 : decode cX5_simulate 2 = .ok (.bipush 99, 2) := by decide +kernel
theorem dX5_simulate_4 : decode cX5_simulate 4 = .ok (.invokestatic 53, 3) := by decide +kernel
theorem dX5_simulate_7 : decode cX5_simulate 7 = .ok (.ifCond .eq 14, 3) := by decide +kernel
theorem dX5_simulate_10 : decode cX5_simulate 10 = .ok (.new 57, 3) := by decide +kernel
theorem dX5_simulate_13 : decode cX5_simulate 13 = .ok (.dup, 1) := by decide +kernel
theorem dX5_simulate_14 : decode cX5_simulate 14 = .ok (.ldc_w 304, 3) := by decide +kernel
theorem dX5_simulate_17 : decode cX5_simulate 17 = .ok (.invokespecial 61, 3) := by decide +kernel
theorem dX5_simulate_20 : decode cX5_simulate 20 = .ok (.athrow, 1) := by decide +kernel
theorem dX5_simulate_21 : decode cX5_simulate 21 = .ok (.aload_n 0, 1) := by decide +kernel
theorem dX5_simulate_22 : decode cX5_simulate 22 = .ok (.getfield 26, 3) := by decide +kernel
theorem dX5_simulate_25 : decode cX5_simulate 25 = .ok (.aload_n 0, 1) := by decide +kernel
theorem dX5_simulate_26 : decode cX5_simulate 26 = .ok (.getfield 19, 3) := by decide +kernel
theorem dX5_simulate_29 : decode cX5_simulate 29 = .ok (.invokevirtual 86, 3) := by decide +kernel
theorem dX5_simulate_32 : decode cX5_simulate 32 = .ok (.lload_n 1, 1) := by decide +kernel
theorem dX5_simulate_33 : decode cX5_simulate 33 = .ok (.lstore 4, 2) := by decide +kernel
theorem dX5_simulate_35 : decode cX5_simulate 35 = .ok (.iconst 0, 1) := by decide +kernel
theorem dX5_simulate_36 : decode cX5_simulate 36 = .ok (.istore 6, 2) := by decide +kernel
theorem dX5_simulate_38 : decode cX5_simulate 38 = .ok (.iconst 0, 1) := by decide +kernel
theorem dX5_simulate_39 : decode cX5_simulate 39 = .ok (.istore 7, 2) := by decide +kernel
theorem dX5_simulate_41 : decode cX5_simulate 41 = .ok (.iload 7, 2) := by decide +kernel
theorem dX5_simulate_43 : decode cX5_simulate 43 = .ok (.iload_n 3, 1) := by decide +kernel
theorem dX5_simulate_44 : decode cX5_simulate 44 = .ok (.if_icmp .ge 94, 3) := by decide +kernel
theorem dX5_simulate_47 : decode cX5_simulate 47 = .ok (.lload 4, 2) := by decide +kernel
theorem dX5_simulate_49 : decode cX5_simulate 49 = .ok (.ldc2_w 306, 3) := by decide +kernel
theorem dX5_simulate_52 : decode cX5_simulate 52 = .ok (.lmul, 1) := by decide +kernel
theorem dX5_simulate_53 : decode cX5_simulate 53 = .ok (.ldc2_w 308, 3) := by decide +kernel
theorem dX5_simulate_56 : decode cX5_simulate 56 = .ok (.ladd, 1) := by decide +kernel
theorem dX5_simulate_57 : decode cX5_simulate 57 = .ok (.lstore 4, 2) := by decide +kernel
theorem dX5_simulate_59 : decode cX5_simulate 59 = .ok (.lload 4, 2) := by decide +kernel
theorem dX5_simulate_61 : decode cX5_simulate 61 = .ok (.bipush 33, 2) := by decide +kernel
theorem dX5_simulate_63 : decode cX5_simulate 63 = .ok (.lushr, 1) := by decide +kernel
theorem dX5_simulate_64 : decode cX5_simulate 64 = .ok (.l2i, 1) := by decide +kernel
theorem dX5_simulate_65 : decode cX5_simulate 65 = .ok (.istore 8, 2) := by decide +kernel
theorem dX5_simulate_67 : decode cX5_simulate 67 = .ok (.iload 8, 2) := by decide +kernel
theorem dX5_simulate_69 : decode cX5_simulate 69 = .ok (.bipush 16, 2) := by decide +kernel
theorem dX5_simulate_71 : decode cX5_simulate 71 = .ok (.irem, 1) := by decide +kernel
theorem dX5_simulate_72 : decode cX5_simulate 72 = .ok (.ifCond .ne 26, 3) := by decide +kernel
theorem dX5_simulate_75 : decode cX5_simulate 75 = .ok (.aload_n 0, 1) := by decide +kernel
theorem dX5_simulate_76 : decode cX5_simulate 76 = .ok (.getfield 26, 3) := by decide +kernel
theorem dX5_simulate_79 : decode cX5_simulate 79 = .ok (.getfield 109, 3) := by decide +kernel
theorem dX5_simulate_82 : decode cX5_simulate 82 = .ok (.getfield 152, 3) := by decide +kernel
theorem dX5_simulate_85 : decode cX5_simulate 85 = .ok (.iconst 0, 1) := by decide +kernel
theorem dX5_simulate_86 : decode cX5_simulate 86 = .ok (.iload 8, 2) := by decide +kernel
theorem dX5_simulate_88 : decode cX5_simulate 88 = .ok (.bipush 16, 2) := by decide +kernel
theorem dX5_simulate_90 : decode cX5_simulate 90 = .ok (.idiv, 1) := by decide +kernel
theorem dX5_simulate_91 : decode cX5_simulate 91 = .ok (.bipush 41, 2) := by decide +kernel
theorem dX5_simulate_93 : decode cX5_simulate 93 = .ok (.irem, 1) := by decide +kernel
theorem dX5_simulate_94 : decode cX5_simulate 94 = .ok (.iastore, 1) := by decide +kernel
theorem dX5_simulate_95 : decode cX5_simulate 95 = .ok (.goto 37, 3) := by decide +kernel
theorem dX5_simulate_98 : decode cX5_simulate 98 = .ok (.iload 6, 2) := by decide +kernel
theorem dX5_simulate_100 : decode cX5_simulate 100 = .ok (.aload_n 0, 1) := by decide +kernel
theorem dX5_simulate_101 : decode cX5_simulate 101 = .ok (.getfield 26, 3) := by decide +kernel
theorem dX5_simulate_104 : decode cX5_simulate 104 = .ok (.iload 8, 2) := by decide +kernel
theorem dX5_simulate_106 : decode cX5_simulate 106 = .ok (.sipush 1024, 3) := by decide +kernel
theorem dX5_simulate_109 : decode cX5_simulate 109 = .ok (.idiv, 1) := by decide +kernel
theorem dX5_simulate_110 : decode cX5_simulate 110 = .ok (.bipush 12, 2) := by decide +kernel
theorem dX5_simulate_112 : decode cX5_simulate 112 = .ok (.irem, 1) := by decide +kernel
theorem dX5_simulate_113 : decode cX5_simulate 113 = .ok (.iconst 1, 1) := by decide +kernel
theorem dX5_simulate_114 : decode cX5_simulate 114 = .ok (.iload 8, 2) := by decide +kernel
theorem dX5_simulate_116 : decode cX5_simulate 116 = .ok (.bipush 16, 2) := by decide +kernel
theorem dX5_simulate_118 : decode cX5_simulate 118 = .ok (.idiv, 1) := by decide +kernel
theorem dX5_simulate_119 : decode cX5_simulate 119 = .ok (.bipush 60, 2) := by decide +kernel
theorem dX5_simulate_121 : decode cX5_simulate 121 = .ok (.irem, 1) := by decide +kernel
theorem dX5_simulate_122 : decode cX5_simulate 122 = .ok (.iadd, 1) := by decide +kernel
theorem dX5_simulate_123 : decode cX5_simulate 123 = .ok (.invokevirtual 225, 3) := by decide +kernel
theorem dX5_simulate_126 : decode cX5_simulate 126 = .ok (.invokestatic 310, 3) := by decide +kernel
theorem dX5_simulate_129 : decode cX5_simulate 129 = .ok (.iadd, 1) := by decide +kernel
theorem dX5_simulate_130 : decode cX5_simulate 130 = .ok (.istore 6, 2) := by decide +kernel
theorem dX5_simulate_132 : decode cX5_simulate 132 = .ok (.iinc 7 1, 3) := by decide +kernel
theorem dX5_simulate_135 : decode cX5_simulate 135 = .ok (.goto (-94), 3) := by decide +kernel
theorem dX5_simulate_138 : decode cX5_simulate 138 = .ok (.iload 6, 2) := by decide +kernel
theorem dX5_simulate_140 : decode cX5_simulate 140 = .ok (.ireturn, 1) := by decide +kernel
theorem dX5_save_0 : decode cX5_save 0 = .ok (.iload_n 1, 1) := by decide +kernel
theorem dX5_save_1 : decode cX5_save 1 = .ok (.iconst 0, 1) := by decide +kernel
theorem dX5_save_2 : decode cX5_save 2 = .ok (.iconst 1, 1) := by decide +kernel
theorem dX5_save_3 : decode cX5_save 3 = .ok (.invokestatic 53, 3) := by decide +kernel
theorem dX5_save_6 : decode cX5_save 6 = .ok (.ifCond .eq 14, 3) := by decide +kernel
theorem dX5_save_9 : decode cX5_save 9 = .ok (.new 155, 3) := by decide +kernel
theorem dX5_save_12 : decode cX5_save 12 = .ok (.dup, 1) := by decide +kernel
theorem dX5_save_13 : decode cX5_save 13 = .ok (.ldc_w 313, 3) := by decide +kernel
theorem dX5_save_16 : decode cX5_save 16 = .ok (.invokespecial 159, 3) := by decide +kernel
theorem dX5_save_19 : decode cX5_save 19 = .ok (.athrow, 1) := by decide +kernel
theorem dX5_save_20 : decode cX5_save 20 = .ok (.iload_n 1, 1) := by decide +kernel
theorem dX5_save_21 : decode cX5_save 21 = .ok (.ifCond .ne 22, 3) := by decide +kernel
theorem dX5_save_24 : decode cX5_save 24 = .ok (.aload_n 0, 1) := by decide +kernel
theorem dX5_save_25 : decode cX5_save 25 = .ok (.getfield 40, 3) := by decide +kernel
theorem dX5_save_28 : decode cX5_save 28 = .ok (.aload_n 0, 1) := by decide +kernel
theorem dX5_save_29 : decode cX5_save 29 = .ok (.getfield 19, 3) := by decide +kernel
theorem dX5_save_32 : decode cX5_save 32 = .ok (.invokevirtual 86, 3) := by decide +kernel
theorem dX5_save_35 : decode cX5_save 35 = .ok (.aload_n 0, 1) := by decide +kernel
theorem dX5_save_36 : decode cX5_save 36 = .ok (.iconst 1, 1) := by decide +kernel
theorem dX5_save_37 : decode cX5_save 37 = .ok (.putfield 46, 3) := by decide +kernel
theorem dX5_save_40 : decode cX5_save 40 = .ok (.goto 19, 3) := by decide +kernel
theorem dX5_save_43 : decode cX5_save 43 = .ok (.aload_n 0, 1) := by decide +kernel
theorem dX5_save_44 : decode cX5_save 44 = .ok (.getfield 43, 3) := by decide +kernel
theorem dX5_save_47 : decode cX5_save 47 = .ok (.aload_n 0, 1) := by decide +kernel
theorem dX5_save_48 : decode cX5_save 48 = .ok (.getfield 19, 3) := by decide +kernel
theorem dX5_save_51 : decode cX5_save 51 = .ok (.invokevirtual 86, 3) := by decide +kernel
theorem dX5_save_54 : decode cX5_save 54 = .ok (.aload_n 0, 1) := by decide +kernel
theorem dX5_save_55 : decode cX5_save 55 = .ok (.iconst 1, 1) := by decide +kernel
theorem dX5_save_56 : decode cX5_save 56 = .ok (.putfield 50, 3) := by decide +kernel
theorem dX5_save_59 : decode cX5_save 59 = .ok (.aload_n 0, 1) := by decide +kernel
theorem dX5_save_60 : decode cX5_save 60 = .ok (.getfield 19, 3) := by decide +kernel
theorem dX5_save_63 : decode cX5_save 63 = .ok (.getfield 109, 3) := by decide +kernel
theorem dX5_save_66 : decode cX5_save 66 = .ok (.getfield 113, 3) := by decide +kernel
theorem dX5_save_69 : decode cX5_save 69 = .ok (.ireturn, 1) := by decide +kernel
theorem dX5_restore_0 : decode cX5_restore 0 = .ok (.iload_n 1, 1) := by decide +kernel
theorem dX5_restore_1 : decode cX5_restore 1 = .ok (.iconst 0, 1) := by decide +kernel
theorem dX5_restore_2 : decode cX5_restore 2 = .ok (.iconst 1, 1) := by decide +kernel
theorem dX5_restore_3 : decode cX5_restore 3 = .ok (.invokestatic 53, 3) := by decide +kernel
theorem dX5_restore_6 : decode cX5_restore 6 = .ok (.ifCond .eq 14, 3) := by decide +kernel
theorem dX5_restore_9 : decode cX5_restore 9 = .ok (.new 155, 3) := by decide +kernel
theorem dX5_restore_12 : decode cX5_restore 12 = .ok (.dup, 1) := by decide +kernel
theorem dX5_restore_13 : decode cX5_restore 13 = .ok (.ldc_w 313, 3) := by decide +kernel
theorem dX5_restore_16 : decode cX5_restore 16 = .ok (.invokespecial 159, 3) := by decide +kernel
theorem dX5_restore_19 : decode cX5_restore 19 = .ok (.athrow, 1) := by decide +kernel
theorem dX5_restore_20 : decode cX5_restore 20 = .ok (.iload_n 1, 1) := by decide +kernel
theorem dX5_restore_21 : decode cX5_restore 21 = .ok (.ifCond .ne 10, 3) := by decide +kernel
theorem dX5_restore_24 : decode cX5_restore 24 = .ok (.aload_n 0, 1) := by decide +kernel
theorem dX5_restore_25 : decode cX5_restore 25 = .ok (.getfield 46, 3) := by decide +kernel
theorem dX5_restore_28 : decode cX5_restore 28 = .ok (.goto 7, 3) := by decide +kernel
theorem dX5_restore_31 : decode cX5_restore 31 = .ok (.aload_n 0, 1) := by decide +kernel
theorem dX5_restore_32 : decode cX5_restore 32 = .ok (.getfield 50, 3) := by decide +kernel
theorem dX5_restore_35 : decode cX5_restore 35 = .ok (.istore_n 2, 1) := by decide +kernel
theorem dX5_restore_36 : decode cX5_restore 36 = .ok (.iload_n 2, 1) := by decide +kernel
theorem dX5_restore_37 : decode cX5_restore 37 = .ok (.ifCond .ne 14, 3) := by decide +kernel
theorem dX5_restore_40 : decode cX5_restore 40 = .ok (.new 68, 3) := by decide +kernel
theorem dX5_restore_43 : decode cX5_restore 43 = .ok (.dup, 1) := by decide +kernel
theorem dX5_restore_44 : decode cX5_restore 44 = .ok (.ldc_w 315, 3) := by decide +kernel
theorem dX5_restore_47 : decode cX5_restore 47 = .ok (.invokespecial 72, 3) := by decide +kernel
theorem dX5_restore_50 : decode cX5_restore 50 = .ok (.athrow, 1) := by decide +kernel
theorem dX5_restore_51 : decode cX5_restore 51 = .ok (.aload_n 0, 1) := by decide +kernel
theorem dX5_restore_52 : decode cX5_restore 52 = .ok (.getfield 19, 3) := by decide +kernel
theorem dX5_restore_55 : decode cX5_restore 55 = .ok (.iload_n 1, 1) := by decide +kernel
theorem dX5_restore_56 : decode cX5_restore 56 = .ok (.ifCond .ne 10, 3) := by decide +kernel
theorem dX5_restore_59 : decode cX5_restore 59 = .ok (.aload_n 0, 1) := by decide +kernel
theorem dX5_restore_60 : decode cX5_restore 60 = .ok (.getfield 40, 3) := by decide +kernel
theorem dX5_restore_63 : decode cX5_restore 63 = .ok (.goto 7, 3) := by decide +kernel
theorem dX5_restore_66 : decode cX5_restore 66 = .ok (.aload_n 0, 1) := by decide +kernel
theorem dX5_restore_67 : decode cX5_restore 67 = .ok (.getfield 43, 3) := by decide +kernel
theorem dX5_restore_70 : decode cX5_restore 70 = .ok (.invokevirtual 86, 3) := by decide +kernel
theorem dX5_restore_73 : decode cX5_restore 73 = .ok (.aload_n 0, 1) := by decide +kernel
theorem dX5_restore_74 : decode cX5_restore 74 = .ok (.iconst 0, 1) := by decide +kernel
theorem dX5_restore_75 : decode cX5_restore 75 = .ok (.putfield 37, 3) := by decide +kernel
theorem dX5_restore_78 : decode cX5_restore 78 = .ok (.aload_n 0, 1) := by decide +kernel
theorem dX5_restore_79 : decode cX5_restore 79 = .ok (.getfield 19, 3) := by decide +kernel
theorem dX5_restore_82 : decode cX5_restore 82 = .ok (.getfield 109, 3) := by decide +kernel
theorem dX5_restore_85 : decode cX5_restore 85 = .ok (.getfield 113, 3) := by decide +kernel
theorem dX5_restore_88 : decode cX5_restore 88 = .ok (.ireturn, 1) := by decide +kernel
theorem dX5_remember_0 : decode cX5_remember 0 = .ok (.aload_n 0, 1) := by decide +kernel
theorem dX5_remember_1 : decode cX5_remember 1 = .ok (.getfield 29, 3) := by decide +kernel
theorem dX5_remember_4 : decode cX5_remember 4 = .ok (.aload_n 0, 1) := by decide +kernel
theorem dX5_remember_5 : decode cX5_remember 5 = .ok (.getfield 33, 3) := by decide +kernel
theorem dX5_remember_8 : decode cX5_remember 8 = .ok (.aaload, 1) := by decide +kernel
theorem dX5_remember_9 : decode cX5_remember 9 = .ok (.aload_n 0, 1) := by decide +kernel
theorem dX5_remember_10 : decode cX5_remember 10 = .ok (.getfield 19, 3) := by decide +kernel
theorem dX5_remember_13 : decode cX5_remember 13 = .ok (.invokevirtual 86, 3) := by decide +kernel
theorem dX5_remember_16 : decode cX5_remember 16 = .ok (.aload_n 0, 1) := by decide +kernel
theorem dX5_remember_17 : decode cX5_remember 17 = .ok (.aload_n 0, 1) := by decide +kernel
theorem dX5_remember_18 : decode cX5_remember 18 = .ok (.getfield 33, 3) := by decide +kernel
theorem dX5_remember_21 : decode cX5_remember 21 = .ok (.bipush 13, 2) := by decide +kernel
theorem dX5_remember_23 : decode cX5_remember 23 = .ok (.if_icmp .ge 12, 3) := by decide +kernel
theorem dX5_remember_26 : decode cX5_remember 26 = .ok (.aload_n 0, 1) := by decide +kernel
theorem dX5_remember_27 : decode cX5_remember 27 = .ok (.getfield 33, 3) := by decide +kernel
theorem dX5_remember_30 : decode cX5_remember 30 = .ok (.iconst 1, 1) := by decide +kernel
theorem dX5_remember_31 : decode cX5_remember 31 = .ok (.iadd, 1) := by decide +kernel
theorem dX5_remember_32 : decode cX5_remember 32 = .ok (.goto 4, 3) := by decide +kernel
theorem dX5_remember_35 : decode cX5_remember 35 = .ok (.iconst 0, 1) := by decide +kernel
theorem dX5_remember_36 : decode cX5_remember 36 = .ok (.putfield 33, 3) := by decide +kernel
theorem dX5_remember_39 : decode cX5_remember 39 = .ok (.aload_n 0, 1) := by decide +kernel
theorem dX5_remember_40 : decode cX5_remember 40 = .ok (.aload_n 0, 1) := by decide +kernel
theorem dX5_remember_41 : decode cX5_remember 41 = .ok (.getfield 37, 3) := by decide +kernel
theorem dX5_remember_44 : decode cX5_remember 44 = .ok (.iconst 1, 1) := by decide +kernel
theorem dX5_remember_45 : decode cX5_remember 45 = .ok (.iadd, 1) := by decide +kernel
theorem dX5_remember_46 : decode cX5_remember 46 = .ok (.bipush 14, 2) := by decide +kernel
theorem dX5_remember_48 : decode cX5_remember 48 = .ok (.invokestatic 317, 3) := by decide +kernel
theorem dX5_remember_51 : decode cX5_remember 51 = .ok (.putfield 37, 3) := by decide +kernel
theorem dX5_remember_54 : decode cX5_remember 54 = .ok (.return_, 1) := by decide +kernel
theorem dX5_runPart_0 : decode cX5_runPart 0 = .ok (.aload_n 0, 1) := by decide +kernel
theorem dX5_runPart_1 : decode cX5_runPart 1 = .ok (.getfield 10, 3) := by decide +kernel
theorem dX5_runPart_4 : decode cX5_runPart 4 = .ok (.iload_n 1, 1) := by decide +kernel
theorem dX5_runPart_5 : decode cX5_runPart 5 = .ok (.iconst 1, 1) := by decide +kernel
theorem dX5_runPart_6 : decode cX5_runPart 6 = .ok (.iadd, 1) := by decide +kernel
theorem dX5_runPart_7 : decode cX5_runPart 7 = .ok (.invokevirtual 320, 3) := by decide +kernel
theorem dX5_runPart_10 : decode cX5_runPart 10 = .ok (.istore_n 2, 1) := by decide +kernel
theorem dX5_runPart_11 : decode cX5_runPart 11 = .ok (.aload_n 0, 1) := by decide +kernel
theorem dX5_runPart_12 : decode cX5_runPart 12 = .ok (.getfield 10, 3) := by decide +kernel
theorem dX5_runPart_15 : decode cX5_runPart 15 = .ok (.iload_n 1, 1) := by decide +kernel
theorem dX5_runPart_16 : decode cX5_runPart 16 = .ok (.invokevirtual 323, 3) := by decide +kernel
theorem dX5_runPart_19 : decode cX5_runPart 19 = .ok (.lookupswitch 142 #[(100, 49), (103, 117), (112, 71), (116, 85), (119, 101)], 49) := by decide +kernel
theorem dX5_runPart_68 : decode cX5_runPart 68 = .ok (.aload_n 0, 1) := by decide +kernel
theorem dX5_runPart_69 : decode cX5_runPart 69 = .ok (.getfield 19, 3) := by decide +kernel
theorem dX5_runPart_72 : decode cX5_runPart 72 = .ok (.iload_n 2, 1) := by decide +kernel
theorem dX5_runPart_73 : decode cX5_runPart 73 = .ok (.aload_n 0, 1) := by decide +kernel
theorem dX5_runPart_74 : decode cX5_runPart 74 = .ok (.getfield 10, 3) := by decide +kernel
theorem dX5_runPart_77 : decode cX5_runPart 77 = .ok (.iload_n 1, 1) := by decide +kernel
theorem dX5_runPart_78 : decode cX5_runPart 78 = .ok (.iconst 3, 1) := by decide +kernel
theorem dX5_runPart_79 : decode cX5_runPart 79 = .ok (.iadd, 1) := by decide +kernel
theorem dX5_runPart_80 : decode cX5_runPart 80 = .ok (.invokevirtual 320, 3) := by decide +kernel
theorem dX5_runPart_83 : decode cX5_runPart 83 = .ok (.invokevirtual 225, 3) := by decide +kernel
theorem dX5_runPart_86 : decode cX5_runPart 86 = .ok (.pop, 1) := by decide +kernel
theorem dX5_runPart_87 : decode cX5_runPart 87 = .ok (.goto 74, 3) := by decide +kernel
theorem dX5_runPart_90 : decode cX5_runPart 90 = .ok (.aload_n 0, 1) := by decide +kernel
theorem dX5_runPart_91 : decode cX5_runPart 91 = .ok (.getfield 19, 3) := by decide +kernel
theorem dX5_runPart_94 : decode cX5_runPart 94 = .ok (.getfield 109, 3) := by decide +kernel
theorem dX5_runPart_97 : decode cX5_runPart 97 = .ok (.iload_n 2, 1) := by decide +kernel
theorem dX5_runPart_98 : decode cX5_runPart 98 = .ok (.invokevirtual 230, 3) := by decide +kernel
theorem dX5_runPart_101 : decode cX5_runPart 101 = .ok (.goto 60, 3) := by decide +kernel
theorem dX5_runPart_104 : decode cX5_runPart 104 = .ok (.aload_n 0, 1) := by decide +kernel
theorem dX5_runPart_105 : decode cX5_runPart 105 = .ok (.getfield 19, 3) := by decide +kernel
theorem dX5_runPart_108 : decode cX5_runPart 108 = .ok (.getfield 109, 3) := by decide +kernel
theorem dX5_runPart_111 : decode cX5_runPart 111 = .ok (.getfield 152, 3) := by decide +kernel
theorem dX5_runPart_114 : decode cX5_runPart 114 = .ok (.iconst 0, 1) := by decide +kernel
theorem dX5_runPart_115 : decode cX5_runPart 115 = .ok (.iload_n 2, 1) := by decide +kernel
theorem dX5_runPart_116 : decode cX5_runPart 116 = .ok (.iastore, 1) := by decide +kernel
theorem dX5_runPart_117 : decode cX5_runPart 117 = .ok (.goto 44, 3) := by decide +kernel
theorem dX5_runPart_120 : decode cX5_runPart 120 = .ok (.aload_n 0, 1) := by decide +kernel
theorem dX5_runPart_121 : decode cX5_runPart 121 = .ok (.getfield 19, 3) := by decide +kernel
theorem dX5_runPart_124 : decode cX5_runPart 124 = .ok (.getfield 109, 3) := by decide +kernel
theorem dX5_runPart_127 : decode cX5_runPart 127 = .ok (.getfield 152, 3) := by decide +kernel
theorem dX5_runPart_130 : decode cX5_runPart 130 = .ok (.iconst 1, 1) := by decide +kernel
theorem dX5_runPart_131 : decode cX5_runPart 131 = .ok (.iload_n 2, 1) := by decide +kernel
theorem dX5_runPart_132 : decode cX5_runPart 132 = .ok (.iastore, 1) := by decide +kernel
theorem dX5_runPart_133 : decode cX5_runPart 133 = .ok (.goto 28, 3) := by decide +kernel
theorem dX5_runPart_136 : decode cX5_runPart 136 = .ok (.aload_n 0, 1) := by decide +kernel
theorem dX5_runPart_137 : decode cX5_runPart 137 = .ok (.getfield 19, 3) := by decide +kernel
theorem dX5_runPart_140 : decode cX5_runPart 140 = .ok (.getfield 109, 3) := by decide +kernel
theorem dX5_runPart_143 : decode cX5_runPart 143 = .ok (.getfield 152, 3) := by decide +kernel
theorem dX5_runPart_146 : decode cX5_runPart 146 = .ok (.iconst 2, 1) := by decide +kernel
theorem dX5_runPart_147 : decode cX5_runPart 147 = .ok (.aload_n 0, 1) := by decide +kernel
theorem dX5_runPart_148 : decode cX5_runPart 148 = .ok (.getfield 10, 3) := by decide +kernel
theorem dX5_runPart_151 : decode cX5_runPart 151 = .ok (.iload_n 1, 1) := by decide +kernel
theorem dX5_runPart_152 : decode cX5_runPart 152 = .ok (.iconst 1, 1) := by decide +kernel
theorem dX5_runPart_153 : decode cX5_runPart 153 = .ok (.iadd, 1) := by decide +kernel
theorem dX5_runPart_154 : decode cX5_runPart 154 = .ok (.invokevirtual 326, 3) := by decide +kernel
theorem dX5_runPart_157 : decode cX5_runPart 157 = .ok (.iastore, 1) := by decide +kernel
theorem dX5_runPart_158 : decode cX5_runPart 158 = .ok (.goto 3, 3) := by decide +kernel
theorem dX5_runPart_161 : decode cX5_runPart 161 = .ok (.return_, 1) := by decide +kernel
theorem dX5_replayRecord_0 : decode cX5_replayRecord 0 = .ok (.aload_n 0, 1) := by decide +kernel
theorem dX5_replayRecord_1 : decode cX5_replayRecord 1 = .ok (.getfield 26, 3) := by decide +kernel
theorem dX5_replayRecord_4 : decode cX5_replayRecord 4 = .ok (.getfield 109, 3) := by decide +kernel
theorem dX5_replayRecord_7 : decode cX5_replayRecord 7 = .ok (.astore 4, 2) := by decide +kernel
theorem dX5_replayRecord_9 : decode cX5_replayRecord 9 = .ok (.aload 4, 2) := by decide +kernel
theorem dX5_replayRecord_11 : decode cX5_replayRecord 11 = .ok (.aload_n 0, 1) := by decide +kernel
theorem dX5_replayRecord_12 : decode cX5_replayRecord 12 = .ok (.getfield 23, 3) := by decide +kernel
theorem dX5_replayRecord_15 : decode cX5_replayRecord 15 = .ok (.getfield 109, 3) := by decide +kernel
theorem dX5_replayRecord_18 : decode cX5_replayRecord 18 = .ok (.invokevirtual 329, 3) := by decide +kernel
theorem dX5_replayRecord_21 : decode cX5_replayRecord 21 = .ok (.aload 4, 2) := by decide +kernel
theorem dX5_replayRecord_23 : decode cX5_replayRecord 23 = .ok (.aload_n 0, 1) := by decide +kernel
theorem dX5_replayRecord_24 : decode cX5_replayRecord 24 = .ok (.getfield 19, 3) := by decide +kernel
theorem dX5_replayRecord_27 : decode cX5_replayRecord 27 = .ok (.getfield 109, 3) := by decide +kernel
theorem dX5_replayRecord_30 : decode cX5_replayRecord 30 = .ok (.invokevirtual 332, 3) := by decide +kernel
theorem dX5_replayRecord_33 : decode cX5_replayRecord 33 = .ok (.aload 4, 2) := by decide +kernel
theorem dX5_replayRecord_35 : decode cX5_replayRecord 35 = .ok (.getfield 152, 3) := by decide +kernel
theorem dX5_replayRecord_38 : decode cX5_replayRecord 38 = .ok (.iconst 1, 1) := by decide +kernel
theorem dX5_replayRecord_39 : decode cX5_replayRecord 39 = .ok (.iload_n 1, 1) := by decide +kernel
theorem dX5_replayRecord_40 : decode cX5_replayRecord 40 = .ok (.iastore, 1) := by decide +kernel
theorem dX5_replayRecord_41 : decode cX5_replayRecord 41 = .ok (.aload 4, 2) := by decide +kernel
theorem dX5_replayRecord_43 : decode cX5_replayRecord 43 = .ok (.getfield 152, 3) := by decide +kernel
theorem dX5_replayRecord_46 : decode cX5_replayRecord 46 = .ok (.iconst 2, 1) := by decide +kernel
theorem dX5_replayRecord_47 : decode cX5_replayRecord 47 = .ok (.iload_n 2, 1) := by decide +kernel
theorem dX5_replayRecord_48 : decode cX5_replayRecord 48 = .ok (.iastore, 1) := by decide +kernel
theorem dX5_replayRecord_49 : decode cX5_replayRecord 49 = .ok (.aload_n 0, 1) := by decide +kernel
theorem dX5_replayRecord_50 : decode cX5_replayRecord 50 = .ok (.getfield 19, 3) := by decide +kernel
theorem dX5_replayRecord_53 : decode cX5_replayRecord 53 = .ok (.getfield 100, 3) := by decide +kernel
theorem dX5_replayRecord_56 : decode cX5_replayRecord 56 = .ok (.astore 5, 2) := by decide +kernel
theorem dX5_replayRecord_58 : decode cX5_replayRecord 58 = .ok (.iconst 0, 1) := by decide +kernel
theorem dX5_replayRecord_59 : decode cX5_replayRecord 59 = .ok (.istore 6, 2) := by decide +kernel
theorem dX5_replayRecord_61 : decode cX5_replayRecord 61 = .ok (.aload 5, 2) := by decide +kernel
theorem dX5_replayRecord_63 : decode cX5_replayRecord 63 = .ok (.getfield 135, 3) := by decide +kernel
theorem dX5_replayRecord_66 : decode cX5_replayRecord 66 = .ok (.getfield 139, 3) := by decide +kernel
theorem dX5_replayRecord_69 : decode cX5_replayRecord 69 = .ok (.iconst 1, 1) := by decide +kernel
theorem dX5_replayRecord_70 : decode cX5_replayRecord 70 = .ok (.isub, 1) := by decide +kernel
theorem dX5_replayRecord_71 : decode cX5_replayRecord 71 = .ok (.istore 7, 2) := by decide +kernel
theorem dX5_replayRecord_73 : decode cX5_replayRecord 73 = .ok (.iload 7, 2) := by decide +kernel
theorem dX5_replayRecord_75 : decode cX5_replayRecord 75 = .ok (.ifCond .lt 41, 3) := by decide +kernel
theorem dX5_replayRecord_78 : decode cX5_replayRecord 78 = .ok (.aload 4, 2) := by decide +kernel
theorem dX5_replayRecord_80 : decode cX5_replayRecord 80 = .ok (.aload 5, 2) := by decide +kernel
theorem dX5_replayRecord_82 : decode cX5_replayRecord 82 = .ok (.getfield 335, 3) := by decide +kernel
theorem dX5_replayRecord_85 : decode cX5_replayRecord 85 = .ok (.iload 7, 2) := by decide +kernel
theorem dX5_replayRecord_87 : decode cX5_replayRecord 87 = .ok (.invokevirtual 187, 3) := by decide +kernel
theorem dX5_replayRecord_90 : decode cX5_replayRecord 90 = .ok (.aload 5, 2) := by decide +kernel
theorem dX5_replayRecord_92 : decode cX5_replayRecord 92 = .ok (.getfield 135, 3) := by decide +kernel
theorem dX5_replayRecord_95 : decode cX5_replayRecord 95 = .ok (.iload 7, 2) := by decide +kernel
theorem dX5_replayRecord_97 : decode cX5_replayRecord 97 = .ok (.invokevirtual 187, 3) := by decide +kernel
theorem dX5_replayRecord_100 : decode cX5_replayRecord 100 = .ok (.invokevirtual 338, 3) := by decide +kernel
theorem dX5_replayRecord_103 : decode cX5_replayRecord 103 = .ok (.iload_n 3, 1) := by decide +kernel
theorem dX5_replayRecord_104 : decode cX5_replayRecord 104 = .ok (.if_icmp .ne 6, 3) := by decide +kernel
theorem dX5_replayRecord_107 : decode cX5_replayRecord 107 = .ok (.iinc 6 1, 3) := by decide +kernel
theorem dX5_replayRecord_110 : decode cX5_replayRecord 110 = .ok (.iinc 7 (-1), 3) := by decide +kernel
theorem dX5_replayRecord_113 : decode cX5_replayRecord 113 = .ok (.goto (-40), 3) := by decide +kernel
theorem dX5_replayRecord_116 : decode cX5_replayRecord 116 = .ok (.iload 6, 2) := by decide +kernel
theorem dX5_replayRecord_118 : decode cX5_replayRecord 118 = .ok (.ireturn, 1) := by decide +kernel
theorem dX5_runCommand_0 : decode cX5_runCommand 0 = .ok (.iload_n 1, 1) := by decide +kernel
theorem dX5_runCommand_1 : decode cX5_runCommand 1 = .ok (.sipush 1000, 3) := by decide +kernel
theorem dX5_runCommand_4 : decode cX5_runCommand 4 = .ok (.idiv, 1) := by decide +kernel
theorem dX5_runCommand_5 : decode cX5_runCommand 5 = .ok (.bipush 10, 2) := by decide +kernel
theorem dX5_runCommand_7 : decode cX5_runCommand 7 = .ok (.irem, 1) := by decide +kernel
theorem dX5_runCommand_8 : decode cX5_runCommand 8 = .ok (.istore_n 2, 1) := by decide +kernel
theorem dX5_runCommand_9 : decode cX5_runCommand 9 = .ok (.iload_n 1, 1) := by decide +kernel
theorem dX5_runCommand_10 : decode cX5_runCommand 10 = .ok (.bipush 100, 2) := by decide +kernel
theorem dX5_runCommand_12 : decode cX5_runCommand 12 = .ok (.idiv, 1) := by decide +kernel
theorem dX5_runCommand_13 : decode cX5_runCommand 13 = .ok (.bipush 10, 2) := by decide +kernel
theorem dX5_runCommand_15 : decode cX5_runCommand 15 = .ok (.irem, 1) := by decide +kernel
theorem dX5_runCommand_16 : decode cX5_runCommand 16 = .ok (.istore_n 3, 1) := by decide +kernel
theorem dX5_runCommand_17 : decode cX5_runCommand 17 = .ok (.iload_n 1, 1) := by decide +kernel
theorem dX5_runCommand_18 : decode cX5_runCommand 18 = .ok (.bipush 100, 2) := by decide +kernel
theorem dX5_runCommand_20 : decode cX5_runCommand 20 = .ok (.irem, 1) := by decide +kernel
theorem dX5_runCommand_21 : decode cX5_runCommand 21 = .ok (.istore 4, 2) := by decide +kernel
theorem dX5_runCommand_23 : decode cX5_runCommand 23 = .ok (.iload_n 1, 1) := by decide +kernel
theorem dX5_runCommand_24 : decode cX5_runCommand 24 = .ok (.sipush 1000, 3) := by decide +kernel
theorem dX5_runCommand_27 : decode cX5_runCommand 27 = .ok (.irem, 1) := by decide +kernel
theorem dX5_runCommand_28 : decode cX5_runCommand 28 = .ok (.istore 5, 2) := by decide +kernel
theorem dX5_runCommand_30 : decode cX5_runCommand 30 = .ok (.iload_n 1, 1) := by decide +kernel
theorem dX5_runCommand_31 : decode cX5_runCommand 31 = .ok (.sipush 10000, 3) := by decide +kernel
theorem dX5_runCommand_34 : decode cX5_runCommand 34 = .ok (.irem, 1) := by decide +kernel
theorem dX5_runCommand_35 : decode cX5_runCommand 35 = .ok (.istore 6, 2) := by decide +kernel
theorem dX5_runCommand_37 : decode cX5_runCommand 37 = .ok (.aload_n 0, 1) := by decide +kernel
theorem dX5_runCommand_38 : decode cX5_runCommand 38 = .ok (.getfield 26, 3) := by decide +kernel
theorem dX5_runCommand_41 : decode cX5_runCommand 41 = .ok (.getfield 109, 3) := by decide +kernel
theorem dX5_runCommand_44 : decode cX5_runCommand 44 = .ok (.astore 7, 2) := by decide +kernel
theorem dX5_runCommand_46 : decode cX5_runCommand 46 = .ok (.iload_n 1, 1) := by decide +kernel
theorem dX5_runCommand_47 : decode cX5_runCommand 47 = .ok (.sipush 10000, 3) := by decide +kernel
theorem dX5_runCommand_50 : decode cX5_runCommand 50 = .ok (.idiv, 1) := by decide +kernel
theorem dX5_runCommand_51 : decode cX5_runCommand 51 = .ok (.tableswitch 219 1 8 #[45, 57, 80, 88, 119, 143, 164, 195], 45) := by decide +kernel
theorem dX5_runCommand_96 : decode cX5_runCommand 96 = .ok (.aload_n 0, 1) := by decide +kernel
theorem dX5_runCommand_97 : decode cX5_runCommand 97 = .ok (.iload 6, 2) := by decide +kernel
theorem dX5_runCommand_99 : decode cX5_runCommand 99 = .ok (.bipush 100, 2) := by decide +kernel
theorem dX5_runCommand_101 : decode cX5_runCommand 101 = .ok (.idiv, 1) := by decide +kernel
theorem dX5_runCommand_102 : decode cX5_runCommand 102 = .ok (.iload 4, 2) := by decide +kernel
theorem dX5_runCommand_104 : decode cX5_runCommand 104 = .ok (.invokevirtual 341, 3) := by decide +kernel
theorem dX5_runCommand_107 : decode cX5_runCommand 107 = .ok (.ireturn, 1) := by decide +kernel
theorem dX5_runCommand_108 : decode cX5_runCommand 108 = .ok (.iload_n 2, 1) := by decide +kernel
theorem dX5_runCommand_109 : decode cX5_runCommand 109 = .ok (.ifCond .ne 20, 3) := by decide +kernel
theorem dX5_runCommand_112 : decode cX5_runCommand 112 = .ok (.iload_n 3, 1) := by decide +kernel
theorem dX5_runCommand_113 : decode cX5_runCommand 113 = .ok (.ifCond .ne 16, 3) := by decide +kernel
theorem dX5_runCommand_116 : decode cX5_runCommand 116 = .ok (.aload_n 0, 1) := by decide +kernel
theorem dX5_runCommand_117 : decode cX5_runCommand 117 = .ok (.iload 4, 2) := by decide +kernel
theorem dX5_runCommand_119 : decode cX5_runCommand 119 = .ok (.invokevirtual 344, 3) := by decide +kernel
theorem dX5_runCommand_122 : decode cX5_runCommand 122 = .ok (.ifCond .eq 7, 3) := by decide +kernel
theorem dX5_runCommand_125 : decode cX5_runCommand 125 = .ok (.iconst 1, 1) := by decide +kernel
theorem dX5_runCommand_126 : decode cX5_runCommand 126 = .ok (.goto 4, 3) := by decide +kernel
theorem dX5_runCommand_129 : decode cX5_runCommand 129 = .ok (.iconst 0, 1) := by decide +kernel
theorem dX5_runCommand_130 : decode cX5_runCommand 130 = .ok (.ireturn, 1) := by decide +kernel
theorem dX5_runCommand_131 : decode cX5_runCommand 131 = .ok (.aload_n 0, 1) := by decide +kernel
theorem dX5_runCommand_132 : decode cX5_runCommand 132 = .ok (.iload_n 2, 1) := by decide +kernel
theorem dX5_runCommand_133 : decode cX5_runCommand 133 = .ok (.iload 5, 2) := by decide +kernel
theorem dX5_runCommand_135 : decode cX5_runCommand 135 = .ok (.invokevirtual 347, 3) := by decide +kernel
theorem dX5_runCommand_138 : decode cX5_runCommand 138 = .ok (.ireturn, 1) := by decide +kernel
theorem dX5_runCommand_139 : decode cX5_runCommand 139 = .ok (.iload_n 3, 1) := by decide +kernel
theorem dX5_runCommand_140 : decode cX5_runCommand 140 = .ok (.ifCond .ne 28, 3) := by decide +kernel
theorem dX5_runCommand_143 : decode cX5_runCommand 143 = .ok (.iload_n 2, 1) := by decide +kernel
theorem dX5_runCommand_144 : decode cX5_runCommand 144 = .ok (.iconst 3, 1) := by decide +kernel
theorem dX5_runCommand_145 : decode cX5_runCommand 145 = .ok (.if_icmp .gt 23, 3) := by decide +kernel
theorem dX5_runCommand_148 : decode cX5_runCommand 148 = .ok (.aload_n 0, 1) := by decide +kernel
theorem dX5_runCommand_149 : decode cX5_runCommand 149 = .ok (.getfield 26, 3) := by decide +kernel
theorem dX5_runCommand_152 : decode cX5_runCommand 152 = .ok (.getfield 100, 3) := by decide +kernel
theorem dX5_runCommand_155 : decode cX5_runCommand 155 = .ok (.iload_n 2, 1) := by decide +kernel
theorem dX5_runCommand_156 : decode cX5_runCommand 156 = .ok (.invokevirtual 118, 3) := by decide +kernel
theorem dX5_runCommand_159 : decode cX5_runCommand 159 = .ok (.iload 4, 2) := by decide +kernel
theorem dX5_runCommand_161 : decode cX5_runCommand 161 = .ok (.if_icmp .lt 7, 3) := by decide +kernel
theorem dX5_runCommand_164 : decode cX5_runCommand 164 = .ok (.iconst 1, 1) := by decide +kernel
theorem dX5_runCommand_165 : decode cX5_runCommand 165 = .ok (.goto 4, 3) := by decide +kernel
theorem dX5_runCommand_168 : decode cX5_runCommand 168 = .ok (.iconst 0, 1) := by decide +kernel
theorem dX5_runCommand_169 : decode cX5_runCommand 169 = .ok (.ireturn, 1) := by decide +kernel
theorem dX5_runCommand_170 : decode cX5_runCommand 170 = .ok (.iload_n 2, 1) := by decide +kernel
theorem dX5_runCommand_171 : decode cX5_runCommand 171 = .ok (.bipush 7, 2) := by decide +kernel
theorem dX5_runCommand_173 : decode cX5_runCommand 173 = .ok (.if_icmp .gt 19, 3) := by decide +kernel
theorem dX5_runCommand_176 : decode cX5_runCommand 176 = .ok (.aload 7, 2) := by decide +kernel
theorem dX5_runCommand_178 : decode cX5_runCommand 178 = .ok (.getfield 121, 3) := by decide +kernel
theorem dX5_runCommand_181 : decode cX5_runCommand 181 = .ok (.iload_n 2, 1) := by decide +kernel
theorem dX5_runCommand_182 : decode cX5_runCommand 182 = .ok (.iaload, 1) := by decide +kernel
theorem dX5_runCommand_183 : decode cX5_runCommand 183 = .ok (.iload 5, 2) := by decide +kernel
theorem dX5_runCommand_185 : decode cX5_runCommand 185 = .ok (.if_icmp .lt 7, 3) := by decide +kernel
theorem dX5_runCommand_188 : decode cX5_runCommand 188 = .ok (.iconst 1, 1) := by decide +kernel
theorem dX5_runCommand_189 : decode cX5_runCommand 189 = .ok (.goto 4, 3) := by decide +kernel
theorem dX5_runCommand_192 : decode cX5_runCommand 192 = .ok (.iconst 0, 1) := by decide +kernel
theorem dX5_runCommand_193 : decode cX5_runCommand 193 = .ok (.ireturn, 1) := by decide +kernel
theorem dX5_runCommand_194 : decode cX5_runCommand 194 = .ok (.aload 7, 2) := by decide +kernel
theorem dX5_runCommand_196 : decode cX5_runCommand 196 = .ok (.aload 7, 2) := by decide +kernel
theorem dX5_runCommand_198 : decode cX5_runCommand 198 = .ok (.getfield 113, 3) := by decide +kernel
theorem dX5_runCommand_201 : decode cX5_runCommand 201 = .ok (.invokevirtual 132, 3) := by decide +kernel
theorem dX5_runCommand_204 : decode cX5_runCommand 204 = .ok (.iload 6, 2) := by decide +kernel
theorem dX5_runCommand_206 : decode cX5_runCommand 206 = .ok (.if_icmp .lt 7, 3) := by decide +kernel
theorem dX5_runCommand_209 : decode cX5_runCommand 209 = .ok (.iconst 1, 1) := by decide +kernel
theorem dX5_runCommand_210 : decode cX5_runCommand 210 = .ok (.goto 4, 3) := by decide +kernel
theorem dX5_runCommand_213 : decode cX5_runCommand 213 = .ok (.iconst 0, 1) := by decide +kernel
theorem dX5_runCommand_214 : decode cX5_runCommand 214 = .ok (.ireturn, 1) := by decide +kernel
theorem dX5_runCommand_215 : decode cX5_runCommand 215 = .ok (.iload 6, 2) := by decide +kernel
theorem dX5_runCommand_217 : decode cX5_runCommand 217 = .ok (.iconst 3, 1) := by decide +kernel
theorem dX5_runCommand_218 : decode cX5_runCommand 218 = .ok (.if_icmp .gt 26, 3) := by decide +kernel
theorem dX5_runCommand_221 : decode cX5_runCommand 221 = .ok (.aload_n 0, 1) := by decide +kernel
theorem dX5_runCommand_222 : decode cX5_runCommand 222 = .ok (.getfield 26, 3) := by decide +kernel
theorem dX5_runCommand_225 : decode cX5_runCommand 225 = .ok (.getfield 100, 3) := by decide +kernel
theorem dX5_runCommand_228 : decode cX5_runCommand 228 = .ok (.getfield 142, 3) := by decide +kernel
theorem dX5_runCommand_231 : decode cX5_runCommand 231 = .ok (.iconst 0, 1) := by decide +kernel
theorem dX5_runCommand_232 : decode cX5_runCommand 232 = .ok (.invokevirtual 187, 3) := by decide +kernel
theorem dX5_runCommand_235 : decode cX5_runCommand 235 = .ok (.iload 6, 2) := by decide +kernel
theorem dX5_runCommand_237 : decode cX5_runCommand 237 = .ok (.if_icmp .ne 7, 3) := by decide +kernel
theorem dX5_runCommand_240 : decode cX5_runCommand 240 = .ok (.iconst 1, 1) := by decide +kernel
theorem dX5_runCommand_241 : decode cX5_runCommand 241 = .ok (.goto 4, 3) := by decide +kernel
theorem dX5_runCommand_244 : decode cX5_runCommand 244 = .ok (.iconst 0, 1) := by decide +kernel
theorem dX5_runCommand_245 : decode cX5_runCommand 245 = .ok (.ireturn, 1) := by decide +kernel
theorem dX5_runCommand_246 : decode cX5_runCommand 246 = .ok (.iload 6, 2) := by decide +kernel
theorem dX5_runCommand_248 : decode cX5_runCommand 248 = .ok (.aload 7, 2) := by decide +kernel
theorem dX5_runCommand_250 : decode cX5_runCommand 250 = .ok (.getfield 145, 3) := by decide +kernel
theorem dX5_runCommand_253 : decode cX5_runCommand 253 = .ok (.ifCond .eq 7, 3) := by decide +kernel
theorem dX5_runCommand_256 : decode cX5_runCommand 256 = .ok (.iconst 1, 1) := by decide +kernel
theorem dX5_runCommand_257 : decode cX5_runCommand 257 = .ok (.goto 4, 3) := by decide +kernel
theorem dX5_runCommand_260 : decode cX5_runCommand 260 = .ok (.iconst 0, 1) := by decide +kernel
theorem dX5_runCommand_261 : decode cX5_runCommand 261 = .ok (.if_icmp .ne 7, 3) := by decide +kernel
theorem dX5_runCommand_264 : decode cX5_runCommand 264 = .ok (.iconst 1, 1) := by decide +kernel
theorem dX5_runCommand_265 : decode cX5_runCommand 265 = .ok (.goto 4, 3) := by decide +kernel
theorem dX5_runCommand_268 : decode cX5_runCommand 268 = .ok (.iconst 0, 1) := by decide +kernel
theorem dX5_runCommand_269 : decode cX5_runCommand 269 = .ok (.ireturn, 1) := by decide +kernel
theorem dX5_runCommand_270 : decode cX5_runCommand 270 = .ok (.iconst 0, 1) := by decide +kernel
theorem dX5_runCommand_271 : decode cX5_runCommand 271 = .ok (.ireturn, 1) := by decide +kernel
theorem dX5_scriptedFall_0 : decode cX5_scriptedFall 0 = .ok (.iload_n 1, 1) := by decide +kernel
theorem dX5_scriptedFall_1 : decode cX5_scriptedFall 1 = .ok (.iload_n 2, 1) := by decide +kernel
theorem dX5_scriptedFall_2 : decode cX5_scriptedFall 2 = .ok (.invokestatic 217, 3) := by decide +kernel
theorem dX5_scriptedFall_5 : decode cX5_scriptedFall 5 = .ok (.ifCond .ne 5, 3) := by decide +kernel
theorem dX5_scriptedFall_8 : decode cX5_scriptedFall 8 = .ok (.iconst 0, 1) := by decide +kernel
theorem dX5_scriptedFall_9 : decode cX5_scriptedFall 9 = .ok (.ireturn, 1) := by decide +kernel
theorem dX5_scriptedFall_10 : decode cX5_scriptedFall 10 = .ok (.aload_n 0, 1) := by decide +kernel
theorem dX5_scriptedFall_11 : decode cX5_scriptedFall 11 = .ok (.getfield 26, 3) := by decide +kernel
theorem dX5_scriptedFall_14 : decode cX5_scriptedFall 14 = .ok (.iload_n 1, 1) := by decide +kernel
theorem dX5_scriptedFall_15 : decode cX5_scriptedFall 15 = .ok (.iload_n 2, 1) := by decide +kernel
theorem dX5_scriptedFall_16 : decode cX5_scriptedFall 16 = .ok (.invokevirtual 225, 3) := by decide +kernel
theorem dX5_scriptedFall_19 : decode cX5_scriptedFall 19 = .ok (.pop, 1) := by decide +kernel
theorem dX5_scriptedFall_20 : decode cX5_scriptedFall 20 = .ok (.iconst 1, 1) := by decide +kernel
theorem dX5_scriptedFall_21 : decode cX5_scriptedFall 21 = .ok (.ireturn, 1) := by decide +kernel
theorem dX5_scriptedPass_0 : decode cX5_scriptedPass 0 = .ok (.iload_n 1, 1) := by decide +kernel
theorem dX5_scriptedPass_1 : decode cX5_scriptedPass 1 = .ok (.iconst 1, 1) := by decide +kernel
theorem dX5_scriptedPass_2 : decode cX5_scriptedPass 2 = .ok (.bipush 99, 2) := by decide +kernel
theorem dX5_scriptedPass_4 : decode cX5_scriptedPass 4 = .ok (.invokestatic 53, 3) := by decide +kernel
theorem dX5_scriptedPass_7 : decode cX5_scriptedPass 7 = .ok (.ifCond .eq 5, 3) := by decide +kernel
theorem dX5_scriptedPass_10 : decode cX5_scriptedPass 10 = .ok (.iconst 0, 1) := by decide +kernel
theorem dX5_scriptedPass_11 : decode cX5_scriptedPass 11 = .ok (.ireturn, 1) := by decide +kernel
theorem dX5_scriptedPass_12 : decode cX5_scriptedPass 12 = .ok (.aload_n 0, 1) := by decide +kernel
theorem dX5_scriptedPass_13 : decode cX5_scriptedPass 13 = .ok (.getfield 26, 3) := by decide +kernel
theorem dX5_scriptedPass_16 : decode cX5_scriptedPass 16 = .ok (.getfield 109, 3) := by decide +kernel
theorem dX5_scriptedPass_19 : decode cX5_scriptedPass 19 = .ok (.iload_n 1, 1) := by decide +kernel
theorem dX5_scriptedPass_20 : decode cX5_scriptedPass 20 = .ok (.invokevirtual 230, 3) := by decide +kernel
theorem dX5_scriptedPass_23 : decode cX5_scriptedPass 23 = .ok (.iconst 1, 1) := by decide +kernel
theorem dX5_scriptedPass_24 : decode cX5_scriptedPass 24 = .ok (.ireturn, 1) := by decide +kernel
theorem dX5_scriptedSetting_0 : decode cX5_scriptedSetting 0 = .ok (.iload_n 1, 1) := by decide +kernel
theorem dX5_scriptedSetting_1 : decode cX5_scriptedSetting 1 = .ok (.iload_n 2, 1) := by decide +kernel
theorem dX5_scriptedSetting_2 : decode cX5_scriptedSetting 2 = .ok (.invokestatic 233, 3) := by decide +kernel
theorem dX5_scriptedSetting_5 : decode cX5_scriptedSetting 5 = .ok (.ifCond .ne 5, 3) := by decide +kernel
theorem dX5_scriptedSetting_8 : decode cX5_scriptedSetting 8 = .ok (.iconst 0, 1) := by decide +kernel
theorem dX5_scriptedSetting_9 : decode cX5_scriptedSetting 9 = .ok (.ireturn, 1) := by decide +kernel
theorem dX5_scriptedSetting_10 : decode cX5_scriptedSetting 10 = .ok (.aload_n 0, 1) := by decide +kernel
theorem dX5_scriptedSetting_11 : decode cX5_scriptedSetting 11 = .ok (.getfield 26, 3) := by decide +kernel
theorem dX5_scriptedSetting_14 : decode cX5_scriptedSetting 14 = .ok (.getfield 109, 3) := by decide +kernel
theorem dX5_scriptedSetting_17 : decode cX5_scriptedSetting 17 = .ok (.getfield 152, 3) := by decide +kernel
theorem dX5_scriptedSetting_20 : decode cX5_scriptedSetting 20 = .ok (.iload_n 1, 1) := by decide +kernel
theorem dX5_scriptedSetting_21 : decode cX5_scriptedSetting 21 = .ok (.iload_n 2, 1) := by decide +kernel
theorem dX5_scriptedSetting_22 : decode cX5_scriptedSetting 22 = .ok (.iastore, 1) := by decide +kernel
theorem dX5_scriptedSetting_23 : decode cX5_scriptedSetting 23 = .ok (.iconst 1, 1) := by decide +kernel
theorem dX5_scriptedSetting_24 : decode cX5_scriptedSetting 24 = .ok (.ireturn, 1) := by decide +kernel
theorem dX5_isOutside_0 : decode cX5_isOutside 0 = .ok (.iload_n 0, 1) := by decide +kernel
theorem dX5_isOutside_1 : decode cX5_isOutside 1 = .ok (.iload_n 1, 1) := by decide +kernel
theorem dX5_isOutside_2 : decode cX5_isOutside 2 = .ok (.if_icmp .lt 8, 3) := by decide +kernel
theorem dX5_isOutside_5 : decode cX5_isOutside 5 = .ok (.iload_n 0, 1) := by decide +kernel
theorem dX5_isOutside_6 : decode cX5_isOutside 6 = .ok (.iload_n 2, 1) := by decide +kernel
theorem dX5_isOutside_7 : decode cX5_isOutside 7 = .ok (.if_icmp .le 7, 3) := by decide +kernel
theorem dX5_isOutside_10 : decode cX5_isOutside 10 = .ok (.iconst 1, 1) := by decide +kernel
theorem dX5_isOutside_11 : decode cX5_isOutside 11 = .ok (.goto 4, 3) := by decide +kernel
theorem dX5_isOutside_14 : decode cX5_isOutside 14 = .ok (.iconst 0, 1) := by decide +kernel
theorem dX5_isOutside_15 : decode cX5_isOutside 15 = .ok (.ireturn, 1) := by decide +kernel
theorem dX5_isFall_0 : decode cX5_isFall 0 = .ok (.iload_n 0, 1) := by decide +kernel
theorem dX5_isFall_1 : decode cX5_isFall 1 = .ok (.iconst 0, 1) := by decide +kernel
theorem dX5_isFall_2 : decode cX5_isFall 2 = .ok (.bipush 99, 2) := by decide +kernel
theorem dX5_isFall_4 : decode cX5_isFall 4 = .ok (.invokestatic 53, 3) := by decide +kernel
theorem dX5_isFall_7 : decode cX5_isFall 7 = .ok (.ifCond .ne 17, 3) := by decide +kernel
theorem dX5_isFall_10 : decode cX5_isFall 10 = .ok (.iload_n 1, 1) := by decide +kernel
theorem dX5_isFall_11 : decode cX5_isFall 11 = .ok (.iconst 1, 1) := by decide +kernel
theorem dX5_isFall_12 : decode cX5_isFall 12 = .ok (.bipush 60, 2) := by decide +kernel
theorem dX5_isFall_14 : decode cX5_isFall 14 = .ok (.invokestatic 53, 3) := by decide +kernel
theorem dX5_isFall_17 : decode cX5_isFall 17 = .ok (.ifCond .ne 7, 3) := by decide +kernel
theorem dX5_isFall_20 : decode cX5_isFall 20 = .ok (.iconst 1, 1) := by decide +kernel
theorem dX5_isFall_21 : decode cX5_isFall 21 = .ok (.goto 4, 3) := by decide +kernel
theorem dX5_isFall_24 : decode cX5_isFall 24 = .ok (.iconst 0, 1) := by decide +kernel
theorem dX5_isFall_25 : decode cX5_isFall 25 = .ok (.ireturn, 1) := by decide +kernel
theorem dX5_isSetting_0 : decode cX5_isSetting 0 = .ok (.iload_n 0, 1) := by decide +kernel
theorem dX5_isSetting_1 : decode cX5_isSetting 1 = .ok (.iconst 0, 1) := by decide +kernel
theorem dX5_isSetting_2 : decode cX5_isSetting 2 = .ok (.iconst 4, 1) := by decide +kernel
theorem dX5_isSetting_3 : decode cX5_isSetting 3 = .ok (.invokestatic 53, 3) := by decide +kernel
theorem dX5_isSetting_6 : decode cX5_isSetting 6 = .ok (.ifCond .ne 24, 3) := by decide +kernel
theorem dX5_isSetting_9 : decode cX5_isSetting 9 = .ok (.iload_n 1, 1) := by decide +kernel
theorem dX5_isSetting_10 : decode cX5_isSetting 10 = .ok (.getstatic 275, 3) := by decide +kernel
theorem dX5_isSetting_13 : decode cX5_isSetting 13 = .ok (.iload_n 0, 1) := by decide +kernel
theorem dX5_isSetting_14 : decode cX5_isSetting 14 = .ok (.iaload, 1) := by decide +kernel
theorem dX5_isSetting_15 : decode cX5_isSetting 15 = .ok (.getstatic 278, 3) := by decide +kernel
theorem dX5_isSetting_18 : decode cX5_isSetting 18 = .ok (.iload_n 0, 1) := by decide +kernel
theorem dX5_isSetting_19 : decode cX5_isSetting 19 = .ok (.iaload, 1) := by decide +kernel
theorem dX5_isSetting_20 : decode cX5_isSetting 20 = .ok (.invokestatic 53, 3) := by decide +kernel
theorem dX5_isSetting_23 : decode cX5_isSetting 23 = .ok (.ifCond .ne 7, 3) := by decide +kernel
theorem dX5_isSetting_26 : decode cX5_isSetting 26 = .ok (.iconst 1, 1) := by decide +kernel
theorem dX5_isSetting_27 : decode cX5_isSetting 27 = .ok (.goto 4, 3) := by decide +kernel
theorem dX5_isSetting_30 : decode cX5_isSetting 30 = .ok (.iconst 0, 1) := by decide +kernel
theorem dX5_isSetting_31 : decode cX5_isSetting 31 = .ok (.ireturn, 1) := by decide +kernel
theorem dX5_areFates_0 : decode cX5_areFates 0 = .ok (.iload_n 1, 1) := by decide +kernel
theorem dX5_areFates_1 : decode cX5_areFates 1 = .ok (.istore_n 2, 1) := by decide +kernel
theorem dX5_areFates_2 : decode cX5_areFates 2 = .ok (.iconst 0, 1) := by decide +kernel
theorem dX5_areFates_3 : decode cX5_areFates 3 = .ok (.istore_n 3, 1) := by decide +kernel
theorem dX5_areFates_4 : decode cX5_areFates 4 = .ok (.iload_n 3, 1) := by decide +kernel
theorem dX5_areFates_5 : decode cX5_areFates 5 = .ok (.iload_n 0, 1) := by decide +kernel
theorem dX5_areFates_6 : decode cX5_areFates 6 = .ok (.if_icmp .ge 28, 3) := by decide +kernel
theorem dX5_areFates_9 : decode cX5_areFates 9 = .ok (.iload_n 2, 1) := by decide +kernel
theorem dX5_areFates_10 : decode cX5_areFates 10 = .ok (.bipush 10, 2) := by decide +kernel
theorem dX5_areFates_12 : decode cX5_areFates 12 = .ok (.irem, 1) := by decide +kernel
theorem dX5_areFates_13 : decode cX5_areFates 13 = .ok (.iconst 0, 1) := by decide +kernel
theorem dX5_areFates_14 : decode cX5_areFates 14 = .ok (.iconst 3, 1) := by decide +kernel
theorem dX5_areFates_15 : decode cX5_areFates 15 = .ok (.invokestatic 53, 3) := by decide +kernel
theorem dX5_areFates_18 : decode cX5_areFates 18 = .ok (.ifCond .eq 5, 3) := by decide +kernel
theorem dX5_areFates_21 : decode cX5_areFates 21 = .ok (.iconst 0, 1) := by decide +kernel
theorem dX5_areFates_22 : decode cX5_areFates 22 = .ok (.ireturn, 1) := by decide +kernel
theorem dX5_areFates_23 : decode cX5_areFates 23 = .ok (.iload_n 2, 1) := by decide +kernel
theorem dX5_areFates_24 : decode cX5_areFates 24 = .ok (.bipush 10, 2) := by decide +kernel
theorem dX5_areFates_26 : decode cX5_areFates 26 = .ok (.idiv, 1) := by decide +kernel
theorem dX5_areFates_27 : decode cX5_areFates 27 = .ok (.istore_n 2, 1) := by decide +kernel
theorem dX5_areFates_28 : decode cX5_areFates 28 = .ok (.iinc 3 1, 3) := by decide +kernel
theorem dX5_areFates_31 : decode cX5_areFates 31 = .ok (.goto (-27), 3) := by decide +kernel
theorem dX5_areFates_34 : decode cX5_areFates 34 = .ok (.iload_n 1, 1) := by decide +kernel
theorem dX5_areFates_35 : decode cX5_areFates 35 = .ok (.ifCond .lt 11, 3) := by decide +kernel
theorem dX5_areFates_38 : decode cX5_areFates 38 = .ok (.iload_n 2, 1) := by decide +kernel
theorem dX5_areFates_39 : decode cX5_areFates 39 = .ok (.ifCond .ne 7, 3) := by decide +kernel
theorem dX5_areFates_42 : decode cX5_areFates 42 = .ok (.iconst 1, 1) := by decide +kernel
theorem dX5_areFates_43 : decode cX5_areFates 43 = .ok (.goto 4, 3) := by decide +kernel
theorem dX5_areFates_46 : decode cX5_areFates 46 = .ok (.iconst 0, 1) := by decide +kernel
theorem dX5_areFates_47 : decode cX5_areFates 47 = .ok (.ireturn, 1) := by decide +kernel
theorem dX5_withoutLastGroups_0 : decode cX5_withoutLastGroups 0 = .ok (.lload_n 0, 1) := by decide +kernel
theorem dX5_withoutLastGroups_1 : decode cX5_withoutLastGroups 1 = .ok (.lstore_n 3, 1) := by decide +kernel
theorem dX5_withoutLastGroups_2 : decode cX5_withoutLastGroups 2 = .ok (.iconst 0, 1) := by decide +kernel
theorem dX5_withoutLastGroups_3 : decode cX5_withoutLastGroups 3 = .ok (.istore 5, 2) := by decide +kernel
theorem dX5_withoutLastGroups_5 : decode cX5_withoutLastGroups 5 = .ok (.iload 5, 2) := by decide +kernel
theorem dX5_withoutLastGroups_7 : decode cX5_withoutLastGroups 7 = .ok (.iload_n 2, 1) := by decide +kernel
theorem dX5_withoutLastGroups_8 : decode cX5_withoutLastGroups 8 = .ok (.if_icmp .ge 15, 3) := by decide +kernel
theorem dX5_withoutLastGroups_11 : decode cX5_withoutLastGroups 11 = .ok (.lload_n 3, 1) := by decide +kernel
theorem dX5_withoutLastGroups_12 : decode cX5_withoutLastGroups 12 = .ok (.ldc2_w 298, 3) := by decide +kernel
theorem dX5_withoutLastGroups_15 : decode cX5_withoutLastGroups 15 = .ok (.ldiv, 1) := by decide +kernel
theorem dX5_withoutLastGroups_16 : decode cX5_withoutLastGroups 16 = .ok (.lstore_n 3, 1) := by decide +kernel
theorem dX5_withoutLastGroups_17 : decode cX5_withoutLastGroups 17 = .ok (.iinc 5 1, 3) := by decide +kernel
theorem dX5_withoutLastGroups_20 : decode cX5_withoutLastGroups 20 = .ok (.goto (-15), 3) := by decide +kernel
theorem dX5_withoutLastGroups_23 : decode cX5_withoutLastGroups 23 = .ok (.lload_n 3, 1) := by decide +kernel
theorem dX5_withoutLastGroups_24 : decode cX5_withoutLastGroups 24 = .ok (.lreturn, 1) := by decide +kernel
theorem dX5_weightOf_0 : decode cX5_weightOf 0 = .ok (.iload_n 0, 1) := by decide +kernel
theorem dX5_weightOf_1 : decode cX5_weightOf 1 = .ok (.tableswitch 38 0 2 #[27, 31, 35], 27) := by decide +kernel
theorem dX5_weightOf_28 : decode cX5_weightOf 28 = .ok (.ldc_w 350, 3) := by decide +kernel
theorem dX5_weightOf_31 : decode cX5_weightOf 31 = .ok (.ireturn, 1) := by decide +kernel
theorem dX5_weightOf_32 : decode cX5_weightOf 32 = .ok (.sipush 10000, 3) := by decide +kernel
theorem dX5_weightOf_35 : decode cX5_weightOf 35 = .ok (.ireturn, 1) := by decide +kernel
theorem dX5_weightOf_36 : decode cX5_weightOf 36 = .ok (.bipush 100, 2) := by decide +kernel
theorem dX5_weightOf_38 : decode cX5_weightOf 38 = .ok (.ireturn, 1) := by decide +kernel
theorem dX5_weightOf_39 : decode cX5_weightOf 39 = .ok (.iconst 1, 1) := by decide +kernel
theorem dX5_weightOf_40 : decode cX5_weightOf 40 = .ok (.ireturn, 1) := by decide +kernel
theorem dX5_sumOf_0 : decode cX5_sumOf 0 = .ok (.iconst 0, 1) := by decide +kernel
theorem dX5_sumOf_1 : decode cX5_sumOf 1 = .ok (.istore_n 1, 1) := by decide +kernel
theorem dX5_sumOf_2 : decode cX5_sumOf 2 = .ok (.aload_n 0, 1) := by decide +kernel
theorem dX5_sumOf_3 : decode cX5_sumOf 3 = .ok (.astore_n 2, 1) := by decide +kernel
theorem dX5_sumOf_4 : decode cX5_sumOf 4 = .ok (.aload_n 2, 1) := by decide +kernel
theorem dX5_sumOf_5 : decode cX5_sumOf 5 = .ok (.arraylength, 1) := by decide +kernel
theorem dX5_sumOf_6 : decode cX5_sumOf 6 = .ok (.istore_n 3, 1) := by decide +kernel
theorem dX5_sumOf_7 : decode cX5_sumOf 7 = .ok (.iconst 0, 1) := by decide +kernel
theorem dX5_sumOf_8 : decode cX5_sumOf 8 = .ok (.istore 4, 2) := by decide +kernel
theorem dX5_sumOf_10 : decode cX5_sumOf 10 = .ok (.iload 4, 2) := by decide +kernel
theorem dX5_sumOf_12 : decode cX5_sumOf 12 = .ok (.iload_n 3, 1) := by decide +kernel
theorem dX5_sumOf_13 : decode cX5_sumOf 13 = .ok (.if_icmp .ge 20, 3) := by decide +kernel
theorem dX5_sumOf_16 : decode cX5_sumOf 16 = .ok (.aload_n 2, 1) := by decide +kernel
theorem dX5_sumOf_17 : decode cX5_sumOf 17 = .ok (.iload 4, 2) := by decide +kernel
theorem dX5_sumOf_19 : decode cX5_sumOf 19 = .ok (.iaload, 1) := by decide +kernel
theorem dX5_sumOf_20 : decode cX5_sumOf 20 = .ok (.istore 5, 2) := by decide +kernel
theorem dX5_sumOf_22 : decode cX5_sumOf 22 = .ok (.iload_n 1, 1) := by decide +kernel
theorem dX5_sumOf_23 : decode cX5_sumOf 23 = .ok (.iload 5, 2) := by decide +kernel
theorem dX5_sumOf_25 : decode cX5_sumOf 25 = .ok (.iadd, 1) := by decide +kernel
theorem dX5_sumOf_26 : decode cX5_sumOf 26 = .ok (.istore_n 1, 1) := by decide +kernel
theorem dX5_sumOf_27 : decode cX5_sumOf 27 = .ok (.iinc 4 1, 3) := by decide +kernel
theorem dX5_sumOf_30 : decode cX5_sumOf 30 = .ok (.goto (-20), 3) := by decide +kernel
theorem dX5_sumOf_33 : decode cX5_sumOf 33 = .ok (.iload_n 1, 1) := by decide +kernel
theorem dX5_sumOf_34 : decode cX5_sumOf 34 = .ok (.ireturn, 1) := by decide +kernel
theorem dX5_copyRow_0 : decode cX5_copyRow 0 = .ok (.iconst 0, 1) := by decide +kernel
theorem dX5_copyRow_1 : decode cX5_copyRow 1 = .ok (.istore_n 2, 1) := by decide +kernel
theorem dX5_copyRow_2 : decode cX5_copyRow 2 = .ok (.iload_n 2, 1) := by decide +kernel
theorem dX5_copyRow_3 : decode cX5_copyRow 3 = .ok (.aload_n 0, 1) := by decide +kernel
theorem dX5_copyRow_4 : decode cX5_copyRow 4 = .ok (.arraylength, 1) := by decide +kernel
theorem dX5_copyRow_5 : decode cX5_copyRow 5 = .ok (.if_icmp .ge 21, 3) := by decide +kernel
theorem dX5_copyRow_8 : decode cX5_copyRow 8 = .ok (.iload_n 2, 1) := by decide +kernel
theorem dX5_copyRow_9 : decode cX5_copyRow 9 = .ok (.aload_n 1, 1) := by decide +kernel
theorem dX5_copyRow_10 : decode cX5_copyRow 10 = .ok (.arraylength, 1) := by decide +kernel
theorem dX5_copyRow_11 : decode cX5_copyRow 11 = .ok (.if_icmp .ge 15, 3) := by decide +kernel
theorem dX5_copyRow_14 : decode cX5_copyRow 14 = .ok (.aload_n 1, 1) := by decide +kernel
theorem dX5_copyRow_15 : decode cX5_copyRow 15 = .ok (.iload_n 2, 1) := by decide +kernel
theorem dX5_copyRow_16 : decode cX5_copyRow 16 = .ok (.aload_n 0, 1) := by decide +kernel
theorem dX5_copyRow_17 : decode cX5_copyRow 17 = .ok (.iload_n 2, 1) := by decide +kernel
theorem dX5_copyRow_18 : decode cX5_copyRow 18 = .ok (.iaload, 1) := by decide +kernel
theorem dX5_copyRow_19 : decode cX5_copyRow 19 = .ok (.iastore, 1) := by decide +kernel
theorem dX5_copyRow_20 : decode cX5_copyRow 20 = .ok (.iinc 2 1, 3) := by decide +kernel
theorem dX5_copyRow_23 : decode cX5_copyRow 23 = .ok (.goto (-21), 3) := by decide +kernel
theorem dX5_copyRow_26 : decode cX5_copyRow 26 = .ok (.return_, 1) := by decide +kernel
theorem dX5_clearRow_0 : decode cX5_clearRow 0 = .ok (.iconst 0, 1) := by decide +kernel
theorem dX5_clearRow_1 : decode cX5_clearRow 1 = .ok (.istore_n 1, 1) := by decide +kernel
theorem dX5_clearRow_2 : decode cX5_clearRow 2 = .ok (.iload_n 1, 1) := by decide +kernel
theorem dX5_clearRow_3 : decode cX5_clearRow 3 = .ok (.aload_n 0, 1) := by decide +kernel
theorem dX5_clearRow_4 : decode cX5_clearRow 4 = .ok (.arraylength, 1) := by decide +kernel
theorem dX5_clearRow_5 : decode cX5_clearRow 5 = .ok (.if_icmp .ge 13, 3) := by decide +kernel
theorem dX5_clearRow_8 : decode cX5_clearRow 8 = .ok (.aload_n 0, 1) := by decide +kernel
theorem dX5_clearRow_9 : decode cX5_clearRow 9 = .ok (.iload_n 1, 1) := by decide +kernel
theorem dX5_clearRow_10 : decode cX5_clearRow 10 = .ok (.iconst 0, 1) := by decide +kernel
theorem dX5_clearRow_11 : decode cX5_clearRow 11 = .ok (.iastore, 1) := by decide +kernel
theorem dX5_clearRow_12 : decode cX5_clearRow 12 = .ok (.iinc 1 1, 3) := by decide +kernel
theorem dX5_clearRow_15 : decode cX5_clearRow 15 = .ok (.goto (-13), 3) := by decide +kernel
theorem dX5_clearRow_18 : decode cX5_clearRow 18 = .ok (.return_, 1) := by decide +kernel
theorem dX5_wholeRoot_0 : decode cX5_wholeRoot 0 = .ok (.iconst 0, 1) := by decide +kernel
theorem dX5_wholeRoot_1 : decode cX5_wholeRoot 1 = .ok (.istore_n 1, 1) := by decide +kernel
theorem dX5_wholeRoot_2 : decode cX5_wholeRoot 2 = .ok (.bipush 64, 2) := by decide +kernel
theorem dX5_wholeRoot_4 : decode cX5_wholeRoot 4 = .ok (.istore_n 2, 1) := by decide +kernel
theorem dX5_wholeRoot_5 : decode cX5_wholeRoot 5 = .ok (.iload_n 2, 1) := by decide +kernel
theorem dX5_wholeRoot_6 : decode cX5_wholeRoot 6 = .ok (.ifCond .le 25, 3) := by decide +kernel
theorem dX5_wholeRoot_9 : decode cX5_wholeRoot 9 = .ok (.iload_n 1, 1) := by decide +kernel
theorem dX5_wholeRoot_10 : decode cX5_wholeRoot 10 = .ok (.iload_n 2, 1) := by decide +kernel
theorem dX5_wholeRoot_11 : decode cX5_wholeRoot 11 = .ok (.iadd, 1) := by decide +kernel
theorem dX5_wholeRoot_12 : decode cX5_wholeRoot 12 = .ok (.iload_n 1, 1) := by decide +kernel
theorem dX5_wholeRoot_13 : decode cX5_wholeRoot 13 = .ok (.iload_n 2, 1) := by decide +kernel
theorem dX5_wholeRoot_14 : decode cX5_wholeRoot 14 = .ok (.iadd, 1) := by decide +kernel
theorem dX5_wholeRoot_15 : decode cX5_wholeRoot 15 = .ok (.imul, 1) := by decide +kernel
theorem dX5_wholeRoot_16 : decode cX5_wholeRoot 16 = .ok (.iload_n 0, 1) := by decide +kernel
theorem dX5_wholeRoot_17 : decode cX5_wholeRoot 17 = .ok (.if_icmp .gt 7, 3) := by decide +kernel
theorem dX5_wholeRoot_20 : decode cX5_wholeRoot 20 = .ok (.iload_n 1, 1) := by decide +kernel
theorem dX5_wholeRoot_21 : decode cX5_wholeRoot 21 = .ok (.iload_n 2, 1) := by decide +kernel
theorem dX5_wholeRoot_22 : decode cX5_wholeRoot 22 = .ok (.iadd, 1) := by decide +kernel
theorem dX5_wholeRoot_23 : decode cX5_wholeRoot 23 = .ok (.istore_n 1, 1) := by decide +kernel
theorem dX5_wholeRoot_24 : decode cX5_wholeRoot 24 = .ok (.iload_n 2, 1) := by decide +kernel
theorem dX5_wholeRoot_25 : decode cX5_wholeRoot 25 = .ok (.iconst 2, 1) := by decide +kernel
theorem dX5_wholeRoot_26 : decode cX5_wholeRoot 26 = .ok (.idiv, 1) := by decide +kernel
theorem dX5_wholeRoot_27 : decode cX5_wholeRoot 27 = .ok (.istore_n 2, 1) := by decide +kernel
theorem dX5_wholeRoot_28 : decode cX5_wholeRoot 28 = .ok (.goto (-23), 3) := by decide +kernel
theorem dX5_wholeRoot_31 : decode cX5_wholeRoot 31 = .ok (.iload_n 1, 1) := by decide +kernel
theorem dX5_wholeRoot_32 : decode cX5_wholeRoot 32 = .ok (.ireturn, 1) := by decide +kernel
theorem dX5_cube_0 : decode cX5_cube 0 = .ok (.iload_n 0, 1) := by decide +kernel
theorem dX5_cube_1 : decode cX5_cube 1 = .ok (.i2l, 1) := by decide +kernel
theorem dX5_cube_2 : decode cX5_cube 2 = .ok (.iload_n 0, 1) := by decide +kernel
theorem dX5_cube_3 : decode cX5_cube 3 = .ok (.i2l, 1) := by decide +kernel
theorem dX5_cube_4 : decode cX5_cube 4 = .ok (.lmul, 1) := by decide +kernel
theorem dX5_cube_5 : decode cX5_cube 5 = .ok (.iload_n 0, 1) := by decide +kernel
theorem dX5_cube_6 : decode cX5_cube 6 = .ok (.i2l, 1) := by decide +kernel
theorem dX5_cube_7 : decode cX5_cube 7 = .ok (.lmul, 1) := by decide +kernel
theorem dX5_cube_8 : decode cX5_cube 8 = .ok (.lreturn, 1) := by decide +kernel
end

section VR
variable {E : xEnv} {l : Launch} {Y : xY} {Q : xQ} {q : xS} {cs : Nat × Nat} {pc : Nat} {ls : List (Option Value)} {st : List Value}
theorem V_iconst {n : Int} {v : Int32} (d : decode Y.2.1 pc = .ok (.iconst n, 1)) (hv : Int32.ofInt n = v := by decide) (k : V E l Y Q q cs (pc + 1) ls (.int v :: st)) : V E l Y Q q cs pc ls (st) :=
  fun p e s m args below meth c C H locs lc hl hR hS => lv_iconst C.1 C.2.1 d hv (k p e s m args below meth c C H locs lc hl hR hS)
theorem V_bipush {n : Int} {v : Int32} (d : decode Y.2.1 pc = .ok (.bipush n, 2)) (hv : (Int8.ofInt n).toInt32 = v := by decide) (k : V E l Y Q q cs (pc + 2) ls (.int v :: st)) : V E l Y Q q cs pc ls (st) :=
  fun p e s m args below meth c C H locs lc hl hR hS => lv_bipush C.1 C.2.1 d hv (k p e s m args below meth c C H locs lc hl hR hS)
theorem V_sipush {n : Int} {v : Int32} (d : decode Y.2.1 pc = .ok (.sipush n, 3)) (hv : (Int16.ofInt n).toInt32 = v := by decide) (k : V E l Y Q q cs (pc + 3) ls (.int v :: st)) : V E l Y Q q cs pc ls (st) :=
  fun p e s m args below meth c C H locs lc hl hR hS => lv_sipush C.1 C.2.1 d hv (k p e s m args below meth c C H locs lc hl hR hS)
theorem V_lconst {n : Fin 2} {v : Int64} (d : decode Y.2.1 pc = .ok (.lconst n, 1)) (hv : Int64.ofNat (n : Nat) = v := by decide) (k : V E l Y Q q cs (pc + 1) ls (.long v :: st)) : V E l Y Q q cs pc ls (st) :=
  fun p e s m args below meth c C H locs lc hl hR hS => lv_lconst C.1 C.2.1 d hv (k p e s m args below meth c C H locs lc hl hR hS)
theorem V_iadd {x y : Int32} (d : decode Y.2.1 pc = .ok (.iadd, 1))  (k : V E l Y Q q cs (pc + 1) ls (.int (x + y) :: st)) : V E l Y Q q cs pc ls (.int y :: .int x :: st) :=
  fun p e s m args below meth c C H locs lc hl hR hS => lv_iadd C.1 C.2.1 d  (k p e s m args below meth c C H locs lc hl hR hS)
theorem V_isub {x y : Int32} (d : decode Y.2.1 pc = .ok (.isub, 1))  (k : V E l Y Q q cs (pc + 1) ls (.int (x - y) :: st)) : V E l Y Q q cs pc ls (.int y :: .int x :: st) :=
  fun p e s m args below meth c C H locs lc hl hR hS => lv_isub C.1 C.2.1 d  (k p e s m args below meth c C H locs lc hl hR hS)
theorem V_imul {x y : Int32} (d : decode Y.2.1 pc = .ok (.imul, 1))  (k : V E l Y Q q cs (pc + 1) ls (.int (x * y) :: st)) : V E l Y Q q cs pc ls (.int y :: .int x :: st) :=
  fun p e s m args below meth c C H locs lc hl hR hS => lv_imul C.1 C.2.1 d  (k p e s m args below meth c C H locs lc hl hR hS)
theorem V_iand {x y : Int32} (d : decode Y.2.1 pc = .ok (.iand, 1))  (k : V E l Y Q q cs (pc + 1) ls (.int (x &&& y) :: st)) : V E l Y Q q cs pc ls (.int y :: .int x :: st) :=
  fun p e s m args below meth c C H locs lc hl hR hS => lv_iand C.1 C.2.1 d  (k p e s m args below meth c C H locs lc hl hR hS)
theorem V_idiv {x y : Int32} (d : decode Y.2.1 pc = .ok (.idiv, 1)) (hne : ¬ y = 0) (k : V E l Y Q q cs (pc + 1) ls (.int (x / y) :: st)) : V E l Y Q q cs pc ls (.int y :: .int x :: st) :=
  fun p e s m args below meth c C H locs lc hl hR hS => lv_idiv C.1 C.2.1 d hne (k p e s m args below meth c C H locs lc hl hR hS)
theorem V_irem {x y : Int32} (d : decode Y.2.1 pc = .ok (.irem, 1)) (hne : ¬ y = 0) (k : V E l Y Q q cs (pc + 1) ls (.int (x - x / y * y) :: st)) : V E l Y Q q cs pc ls (.int y :: .int x :: st) :=
  fun p e s m args below meth c C H locs lc hl hR hS => lv_irem C.1 C.2.1 d hne (k p e s m args below meth c C H locs lc hl hR hS)
theorem V_ishr {x y : Int32} (d : decode Y.2.1 pc = .ok (.ishr, 1))  (k : V E l Y Q q cs (pc + 1) ls (.int (x >>> (y &&& 31)) :: st)) : V E l Y Q q cs pc ls (.int y :: .int x :: st) :=
  fun p e s m args below meth c C H locs lc hl hR hS => lv_ishr C.1 C.2.1 d  (k p e s m args below meth c C H locs lc hl hR hS)
theorem V_ladd {x y : Int64} (d : decode Y.2.1 pc = .ok (.ladd, 1))  (k : V E l Y Q q cs (pc + 1) ls (.long (x + y) :: st)) : V E l Y Q q cs pc ls (.long y :: .long x :: st) :=
  fun p e s m args below meth c C H locs lc hl hR hS => lv_ladd C.1 C.2.1 d  (k p e s m args below meth c C H locs lc hl hR hS)
theorem V_lsub {x y : Int64} (d : decode Y.2.1 pc = .ok (.lsub, 1))  (k : V E l Y Q q cs (pc + 1) ls (.long (x - y) :: st)) : V E l Y Q q cs pc ls (.long y :: .long x :: st) :=
  fun p e s m args below meth c C H locs lc hl hR hS => lv_lsub C.1 C.2.1 d  (k p e s m args below meth c C H locs lc hl hR hS)
theorem V_lmul {x y : Int64} (d : decode Y.2.1 pc = .ok (.lmul, 1))  (k : V E l Y Q q cs (pc + 1) ls (.long (x * y) :: st)) : V E l Y Q q cs pc ls (.long y :: .long x :: st) :=
  fun p e s m args below meth c C H locs lc hl hR hS => lv_lmul C.1 C.2.1 d  (k p e s m args below meth c C H locs lc hl hR hS)
theorem V_land {x y : Int64} (d : decode Y.2.1 pc = .ok (.land, 1))  (k : V E l Y Q q cs (pc + 1) ls (.long (x &&& y) :: st)) : V E l Y Q q cs pc ls (.long y :: .long x :: st) :=
  fun p e s m args below meth c C H locs lc hl hR hS => lv_land C.1 C.2.1 d  (k p e s m args below meth c C H locs lc hl hR hS)
theorem V_lor {x y : Int64} (d : decode Y.2.1 pc = .ok (.lor, 1))  (k : V E l Y Q q cs (pc + 1) ls (.long (x ||| y) :: st)) : V E l Y Q q cs pc ls (.long y :: .long x :: st) :=
  fun p e s m args below meth c C H locs lc hl hR hS => lv_lor C.1 C.2.1 d  (k p e s m args below meth c C H locs lc hl hR hS)
theorem V_ldiv {x y : Int64} (d : decode Y.2.1 pc = .ok (.ldiv, 1)) (hne : ¬ y = 0) (k : V E l Y Q q cs (pc + 1) ls (.long (x / y) :: st)) : V E l Y Q q cs pc ls (.long y :: .long x :: st) :=
  fun p e s m args below meth c C H locs lc hl hR hS => lv_ldiv C.1 C.2.1 d hne (k p e s m args below meth c C H locs lc hl hR hS)
theorem V_lrem {x y : Int64} (d : decode Y.2.1 pc = .ok (.lrem, 1)) (hne : ¬ y = 0) (k : V E l Y Q q cs (pc + 1) ls (.long (x - x / y * y) :: st)) : V E l Y Q q cs pc ls (.long y :: .long x :: st) :=
  fun p e s m args below meth c C H locs lc hl hR hS => lv_lrem C.1 C.2.1 d hne (k p e s m args below meth c C H locs lc hl hR hS)
theorem V_lneg {x : Int64} (d : decode Y.2.1 pc = .ok (.lneg, 1))  (k : V E l Y Q q cs (pc + 1) ls (.long (-x) :: st)) : V E l Y Q q cs pc ls (.long x :: st) :=
  fun p e s m args below meth c C H locs lc hl hR hS => lv_lneg C.1 C.2.1 d  (k p e s m args below meth c C H locs lc hl hR hS)
theorem V_i2l {x : Int32} (d : decode Y.2.1 pc = .ok (.i2l, 1))  (k : V E l Y Q q cs (pc + 1) ls (.long x.toInt64 :: st)) : V E l Y Q q cs pc ls (.int x :: st) :=
  fun p e s m args below meth c C H locs lc hl hR hS => lv_i2l C.1 C.2.1 d rfl (k p e s m args below meth c C H locs lc hl hR hS)
theorem V_l2i {x : Int64} (d : decode Y.2.1 pc = .ok (.l2i, 1))  (k : V E l Y Q q cs (pc + 1) ls (.int x.toInt32 :: st)) : V E l Y Q q cs pc ls (.long x :: st) :=
  fun p e s m args below meth c C H locs lc hl hR hS => lv_l2i C.1 C.2.1 d rfl (k p e s m args below meth c C H locs lc hl hR hS)
theorem V_lushr {x : Int64} {y : Int32} (d : decode Y.2.1 pc = .ok (.lushr, 1))  (k : V E l Y Q q cs (pc + 1) ls (.long ((x.toUInt64 >>> (y.toInt64.toUInt64 &&& Int64.toUInt64 63)).toInt64) :: st)) : V E l Y Q q cs pc ls (.int y :: .long x :: st) :=
  fun p e s m args below meth c C H locs lc hl hR hS => lv_lushr C.1 C.2.1 d rfl (k p e s m args below meth c C H locs lc hl hR hS)
theorem V_lshl {x : Int64} {y : Int32} (d : decode Y.2.1 pc = .ok (.lshl, 1))  (k : V E l Y Q q cs (pc + 1) ls (.long (x <<< (y.toInt64 &&& 63)) :: st)) : V E l Y Q q cs pc ls (.int y :: .long x :: st) :=
  fun p e s m args below meth c C H locs lc hl hR hS => lv_lshl C.1 C.2.1 d rfl (k p e s m args below meth c C H locs lc hl hR hS)
theorem V_dup {v : Value} (d : decode Y.2.1 pc = .ok (.dup, 1)) (hv : v.category = 1 := by rfl) (k : V E l Y Q q cs (pc + 1) ls (v :: v :: st)) : V E l Y Q q cs pc ls (v :: st) :=
  fun p e s m args below meth c C H locs lc hl hR hS => lv_dup C.1 C.2.1 d (by rw [xv_cat]; exact hv) (k p e s m args below meth c C H locs lc hl hR hS)
theorem V_pop {v : Value} (d : decode Y.2.1 pc = .ok (.pop, 1)) (hv : v.category = 1 := by rfl) (k : V E l Y Q q cs (pc + 1) ls st) : V E l Y Q q cs pc ls (v :: st) :=
  fun p e s m args below meth c C H locs lc hl hR hS => lv_pop C.1 C.2.1 d (by rw [xv_cat]; exact hv) (k p e s m args below meth c C H locs lc hl hR hS)
theorem V_dup2 {v w : Value} (d : decode Y.2.1 pc = .ok (.dup2, 1)) (hv : v.category = 1 := by rfl) (hw : w.category = 1 := by rfl) (k : V E l Y Q q cs (pc + 1) ls (v :: w :: v :: w :: st)) : V E l Y Q q cs pc ls (v :: w :: st) :=
  fun p e s m args below meth c C H locs lc hl hR hS => lv_dup2_11 C.1 C.2.1 d (by rw [xv_cat]; exact hv) (by rw [xv_cat]; exact hw) (k p e s m args below meth c C H locs lc hl hR hS)
theorem V_goto {off : Int} {tgt : Nat} (d : decode Y.2.1 pc = .ok (.goto off, 3)) (ht : (pc : Int) + off = (tgt : Int)) (k : V E l Y Q q cs tgt ls st) : V E l Y Q q cs pc ls st :=
  fun p e s m args below meth c C H locs lc hl hR hS => lv_goto C.1 C.2.1 d ht (k p e s m args below meth c C H locs lc hl hR hS)
theorem V_ldc {index : Nat} {v : Int32} (d : decode Y.2.1 pc = .ok (.ldc index, 2)) (hc : Cond.constant Y.1.cls index v ∈ xTT) (k : V E l Y Q q cs (pc + 2) ls (.int v :: st)) : V E l Y Q q cs pc ls st :=
  fun p e s m args below meth c C H locs lc hl hR hS => lv_ldc C.1 C.2.1 C.2.2.2.2.2.2.1 (C.2.2.2.2.2.2.2.1 _ hc) d (k p e s m args below meth c C H locs lc hl hR hS)
theorem V_ldcw {index : Nat} {v : Int32} (d : decode Y.2.1 pc = .ok (.ldc_w index, 3)) (hc : Cond.constant Y.1.cls index v ∈ xTT) (k : V E l Y Q q cs (pc + 3) ls (.int v :: st)) : V E l Y Q q cs pc ls st :=
  fun p e s m args below meth c C H locs lc hl hR hS => lv_ldcw C.1 C.2.1 C.2.2.2.2.2.2.1 (C.2.2.2.2.2.2.2.1 _ hc) d (k p e s m args below meth c C H locs lc hl hR hS)
theorem V_ldc2 {index : Nat} {v : Int64} (d : decode Y.2.1 pc = .ok (.ldc2_w index, 3)) (hc : Cond.constantLong Y.1.cls index v ∈ xTT) (k : V E l Y Q q cs (pc + 3) ls (.long v :: st)) : V E l Y Q q cs pc ls st :=
  fun p e s m args below meth c C H locs lc hl hR hS => lv_ldc2 C.1 C.2.1 C.2.2.2.2.2.2.1 (C.2.2.2.2.2.2.2.1 _ hc) d (k p e s m args below meth c C H locs lc hl hR hS)
theorem V_widen {k n : Nat} (h1 : cs.1 ≤ k) (h2 : cs.2 ≤ n) (kk : V E l Y Q q (k, n) pc ls st) : V E l Y Q q cs pc ls st :=
  fun p e s m args below meth c C H locs lc hl hR hS => W.widen h1 h2 (kk p e s m args below meth c C H locs lc hl hR hS)
theorem V_if_eq {x : Int32} {off : Int} {tgt : Nat} (d : decode Y.2.1 pc = .ok (.ifCond .eq off, 3)) (ht : (pc : Int) + off = (tgt : Int)) (kt : x = 0 → V E l Y Q q cs tgt ls st) (kf : ¬ x = 0 → V E l Y Q q cs (pc + 3) ls st) : V E l Y Q q cs pc ls (.int x :: st) :=
  fun p e s m args below meth c C H locs lc hl hR hS => lv_if_eq C.1 C.2.1 d ht (fun h => kt h p e s m args below meth c C H locs lc hl hR hS) (fun h => kf h p e s m args below meth c C H locs lc hl hR hS)
theorem V_icmp_eq {x y : Int32} {off : Int} {tgt : Nat} (d : decode Y.2.1 pc = .ok (.if_icmp .eq off, 3)) (ht : (pc : Int) + off = (tgt : Int)) (kt : x = y → V E l Y Q q cs tgt ls st) (kf : ¬ x = y → V E l Y Q q cs (pc + 3) ls st) : V E l Y Q q cs pc ls (.int y :: .int x :: st) :=
  fun p e s m args below meth c C H locs lc hl hR hS => lv_icmp_eq C.1 C.2.1 d ht (fun h => kt h p e s m args below meth c C H locs lc hl hR hS) (fun h => kf h p e s m args below meth c C H locs lc hl hR hS)
theorem V_if_ne {x : Int32} {off : Int} {tgt : Nat} (d : decode Y.2.1 pc = .ok (.ifCond .ne off, 3)) (ht : (pc : Int) + off = (tgt : Int)) (kt : ¬ x = 0 → V E l Y Q q cs tgt ls st) (kf : x = 0 → V E l Y Q q cs (pc + 3) ls st) : V E l Y Q q cs pc ls (.int x :: st) :=
  fun p e s m args below meth c C H locs lc hl hR hS => lv_if_ne C.1 C.2.1 d ht (fun h => kt h p e s m args below meth c C H locs lc hl hR hS) (fun h => kf h p e s m args below meth c C H locs lc hl hR hS)
theorem V_icmp_ne {x y : Int32} {off : Int} {tgt : Nat} (d : decode Y.2.1 pc = .ok (.if_icmp .ne off, 3)) (ht : (pc : Int) + off = (tgt : Int)) (kt : ¬ x = y → V E l Y Q q cs tgt ls st) (kf : x = y → V E l Y Q q cs (pc + 3) ls st) : V E l Y Q q cs pc ls (.int y :: .int x :: st) :=
  fun p e s m args below meth c C H locs lc hl hR hS => lv_icmp_ne C.1 C.2.1 d ht (fun h => kt h p e s m args below meth c C H locs lc hl hR hS) (fun h => kf h p e s m args below meth c C H locs lc hl hR hS)
theorem V_if_lt {x : Int32} {off : Int} {tgt : Nat} (d : decode Y.2.1 pc = .ok (.ifCond .lt off, 3)) (ht : (pc : Int) + off = (tgt : Int)) (kt : x < 0 → V E l Y Q q cs tgt ls st) (kf : ¬ x < 0 → V E l Y Q q cs (pc + 3) ls st) : V E l Y Q q cs pc ls (.int x :: st) :=
  fun p e s m args below meth c C H locs lc hl hR hS => lv_if_lt C.1 C.2.1 d ht (fun h => kt h p e s m args below meth c C H locs lc hl hR hS) (fun h => kf h p e s m args below meth c C H locs lc hl hR hS)
theorem V_icmp_lt {x y : Int32} {off : Int} {tgt : Nat} (d : decode Y.2.1 pc = .ok (.if_icmp .lt off, 3)) (ht : (pc : Int) + off = (tgt : Int)) (kt : x < y → V E l Y Q q cs tgt ls st) (kf : ¬ x < y → V E l Y Q q cs (pc + 3) ls st) : V E l Y Q q cs pc ls (.int y :: .int x :: st) :=
  fun p e s m args below meth c C H locs lc hl hR hS => lv_icmp_lt C.1 C.2.1 d ht (fun h => kt h p e s m args below meth c C H locs lc hl hR hS) (fun h => kf h p e s m args below meth c C H locs lc hl hR hS)
theorem V_if_ge {x : Int32} {off : Int} {tgt : Nat} (d : decode Y.2.1 pc = .ok (.ifCond .ge off, 3)) (ht : (pc : Int) + off = (tgt : Int)) (kt : ¬ x < 0 → V E l Y Q q cs tgt ls st) (kf : x < 0 → V E l Y Q q cs (pc + 3) ls st) : V E l Y Q q cs pc ls (.int x :: st) :=
  fun p e s m args below meth c C H locs lc hl hR hS => lv_if_ge C.1 C.2.1 d ht (fun h => kt (Int32.not_lt.mpr h) p e s m args below meth c C H locs lc hl hR hS) (fun h => kf (Int32.not_le.mp h) p e s m args below meth c C H locs lc hl hR hS)
theorem V_icmp_ge {x y : Int32} {off : Int} {tgt : Nat} (d : decode Y.2.1 pc = .ok (.if_icmp .ge off, 3)) (ht : (pc : Int) + off = (tgt : Int)) (kt : ¬ x < y → V E l Y Q q cs tgt ls st) (kf : x < y → V E l Y Q q cs (pc + 3) ls st) : V E l Y Q q cs pc ls (.int y :: .int x :: st) :=
  fun p e s m args below meth c C H locs lc hl hR hS => lv_icmp_ge C.1 C.2.1 d ht (fun h => kt (Int32.not_lt.mpr h) p e s m args below meth c C H locs lc hl hR hS) (fun h => kf (Int32.not_le.mp h) p e s m args below meth c C H locs lc hl hR hS)
theorem V_if_gt {x : Int32} {off : Int} {tgt : Nat} (d : decode Y.2.1 pc = .ok (.ifCond .gt off, 3)) (ht : (pc : Int) + off = (tgt : Int)) (kt : 0 < x → V E l Y Q q cs tgt ls st) (kf : ¬ 0 < x → V E l Y Q q cs (pc + 3) ls st) : V E l Y Q q cs pc ls (.int x :: st) :=
  fun p e s m args below meth c C H locs lc hl hR hS => lv_if_gt C.1 C.2.1 d ht (fun h => kt h p e s m args below meth c C H locs lc hl hR hS) (fun h => kf h p e s m args below meth c C H locs lc hl hR hS)
theorem V_icmp_gt {x y : Int32} {off : Int} {tgt : Nat} (d : decode Y.2.1 pc = .ok (.if_icmp .gt off, 3)) (ht : (pc : Int) + off = (tgt : Int)) (kt : y < x → V E l Y Q q cs tgt ls st) (kf : ¬ y < x → V E l Y Q q cs (pc + 3) ls st) : V E l Y Q q cs pc ls (.int y :: .int x :: st) :=
  fun p e s m args below meth c C H locs lc hl hR hS => lv_icmp_gt C.1 C.2.1 d ht (fun h => kt h p e s m args below meth c C H locs lc hl hR hS) (fun h => kf h p e s m args below meth c C H locs lc hl hR hS)
theorem V_if_le {x : Int32} {off : Int} {tgt : Nat} (d : decode Y.2.1 pc = .ok (.ifCond .le off, 3)) (ht : (pc : Int) + off = (tgt : Int)) (kt : ¬ 0 < x → V E l Y Q q cs tgt ls st) (kf : 0 < x → V E l Y Q q cs (pc + 3) ls st) : V E l Y Q q cs pc ls (.int x :: st) :=
  fun p e s m args below meth c C H locs lc hl hR hS => lv_if_le C.1 C.2.1 d ht (fun h => kt (Int32.not_lt.mpr h) p e s m args below meth c C H locs lc hl hR hS) (fun h => kf (Int32.not_le.mp h) p e s m args below meth c C H locs lc hl hR hS)
theorem V_icmp_le {x y : Int32} {off : Int} {tgt : Nat} (d : decode Y.2.1 pc = .ok (.if_icmp .le off, 3)) (ht : (pc : Int) + off = (tgt : Int)) (kt : ¬ y < x → V E l Y Q q cs tgt ls st) (kf : y < x → V E l Y Q q cs (pc + 3) ls st) : V E l Y Q q cs pc ls (.int y :: .int x :: st) :=
  fun p e s m args below meth c C H locs lc hl hR hS => lv_icmp_le C.1 C.2.1 d ht (fun h => kt (Int32.not_lt.mpr h) p e s m args below meth c C H locs lc hl hR hS) (fun h => kf (Int32.not_le.mp h) p e s m args below meth c C H locs lc hl hR hS)
theorem V_lcmp {x y : Int64} (d : decode Y.2.1 pc = .ok (.lcmp, 1)) (k : V E l Y Q q cs (pc + 1) ls (.int (lg_cmp x y) :: st)) : V E l Y Q q cs pc ls (.long y :: .long x :: st) :=
  fun p e s m args below meth c C H locs lc hl hR hS => W.lcmp C.1 C.2.1 d (k p e s m args below meth c C H locs lc hl hR hS)
theorem V_tableIn {dflt lo hi : Int} {offs : Array Int} {len : Nat} {x : Int32} {off : Int} {tgt : Nat} (d : decode Y.2.1 pc = .ok (.tableswitch dflt lo hi offs, len)) (h1 : ¬ x.toInt < lo) (h2 : ¬ hi < x.toInt) (ho : offs[(x.toInt - lo).toNat]? = some off) (ht : (pc : Int) + off = (tgt : Int)) (k : V E l Y Q q cs tgt ls st) : V E l Y Q q cs pc ls (.int x :: st) :=
  fun p e s m args below meth c C H locs lc hl hR hS => lv_tableIn C.1 C.2.1 d h1 h2 ho ht (k p e s m args below meth c C H locs lc hl hR hS)
theorem V_tableOut {dflt lo hi : Int} {offs : Array Int} {len : Nat} {x : Int32} {tgt : Nat} (d : decode Y.2.1 pc = .ok (.tableswitch dflt lo hi offs, len)) (h : x.toInt < lo ∨ hi < x.toInt) (ht : (pc : Int) + dflt = (tgt : Int)) (k : V E l Y Q q cs tgt ls st) : V E l Y Q q cs pc ls (.int x :: st) :=
  fun p e s m args below meth c C H locs lc hl hR hS => lv_tableOut C.1 C.2.1 d h ht (k p e s m args below meth c C H locs lc hl hR hS)
theorem V_lookup {dflt : Int} {ps : Array (Int × Int)} {len : Nat} {x : Int32} {off : Int} {tgt : Nat} (d : decode Y.2.1 pc = .ok (.lookupswitch dflt ps, len)) (hp : (ps.toList.zip (ps.toList.drop 1)).all (fun (a, next) => a.1 < next.1) = true) (ho : Op.lookupswitch.offset ps.toList dflt x.toInt = off) (ht : (pc : Int) + off = (tgt : Int)) (k : V E l Y Q q cs tgt ls st) : V E l Y Q q cs pc ls (.int x :: st) :=
  fun p e s m args below meth c C H locs lc hl hR hS => lv_lookup C.1 C.2.1 d hp ho ht (k p e s m args below meth c C H locs lc hl hR hS)
/-- fewer locals are told -/
theorem V_drop {ls' : List (Option Value)} (h : ∀ (i : Nat) (v : Value), ls'[i]? = some (some v) → ls[i]? = some (some v)) (k : V E l Y Q q cs pc ls' st) : V E l Y Q q cs pc ls st :=
  fun p e s m args below meth c C H locs lc hl hR hS => k p e s m args below meth c C H locs lc ⟨hl.1, hl.2.1, fun i v hv => hl.2.2 i v (h i v hv)⟩ hR hS
theorem V_topi {x : Int32} (k : ∀ y : Int32, y = x → V E l Y Q q cs pc ls (.int y :: st)) : V E l Y Q q cs pc ls (.int x :: st) := k x rfl
theorem V_topl {x : Int64} (k : ∀ y : Int64, y = x → V E l Y Q q cs pc ls (.long y :: st)) : V E l Y Q q cs pc ls (.long x :: st) := k x rfl
theorem V_top {v w : Value} (h : w = v) (k : V E l Y Q q cs pc ls (w :: st)) : V E l Y Q q cs pc ls (v :: st) := h ▸ k
theorem V_top2 {u v w : Value} (h : w = v) (k : V E l Y Q q cs pc ls (u :: w :: st)) : V E l Y Q q cs pc ls (u :: v :: st) := h ▸ k
end VR
section VL
variable {E : xEnv} {l : Launch} {Y : xY} {Q : xQ} {q : xS} {cs : Nat × Nat} {pc : Nat} {ls : List (Option Value)} {st : List Value}
def xnl : Option Value → Bool
  | some (.long _) => false
  | some (.double _) => false
  | _ => true
def xpr (E : xEnv) (nL : Nat) (ls : List (Option Value)) : List (Nat × Value) := (List.range nL).filterMap (fun i => match ls[i]? with | some (some v) => some (i, xv E v) | _ => none)
theorem xpr_mem {E : xEnv} {nL : Nat} {ls : List (Option Value)} {i : Nat} {v : Value} : (i < nL ∧ ls[i]? = some (some v)) → (i, xv E v) ∈ xpr E nL ls := by
  rintro ⟨h1, h2⟩
  refine List.mem_filterMap.mpr ⟨i, List.mem_range.mpr h1, ?_⟩
  rw [h2]
theorem xpr_of {E : xEnv} {nL : Nat} {ls : List (Option Value)} {x : Nat × Value} (h : x ∈ xpr E nL ls) : ∃ v, ls[x.1]? = some (some v) ∧ x.2 = xv E v := by
  obtain ⟨i, hi, h2⟩ := List.mem_filterMap.mp h
  split at h2
  next v hv => cases h2; exact ⟨v, hv, rfl⟩
  next => cases h2
theorem xHas.lv {lc : Array Slot} {nL : Nat} {ls : List (Option Value)} (h : xHas E lc nL ls) : lv_has lc nL (xpr E nL ls) := ⟨h.1, h.2.1, fun x hx => by
  obtain ⟨v, h1, h2⟩ := xpr_of hx
  rw [h2]
  exact h.2.2 _ _ h1⟩
theorem xHas.lt {lc : Array Slot} {nL : Nat} {ls : List (Option Value)} (h : xHas E lc nL ls) {i : Nat} {v : Value} (hv : ls[i]? = some (some v)) : i < nL := by
  have := h.2.2 i v hv
  rw [← h.1]
  exact (Array.getElem?_eq_some_iff.mp this).1
/-- what one slot's storing leaves -/
def xSt1 (ls ls' : List (Option Value)) (i : Nat) (v : Value) : Prop := ∀ (j : Nat) (w : Value), ls'[j]? = some (some w) → (j = i ∧ w = v) ∨ (j ≠ i ∧ ls[j]? = some (some w) ∧ (j + 1 = i → xnl (some w) = true))
def xSt2 (ls ls' : List (Option Value)) (i : Nat) (v : Value) : Prop := ∀ (j : Nat) (w : Value), ls'[j]? = some (some w) → (j = i ∧ w = v) ∨ (j ≠ i ∧ j ≠ i + 1 ∧ ls[j]? = some (some w) ∧ (j + 1 = i → xnl (some w) = true))
theorem xnl_cat {E : xEnv} {w : Value} (h : xnl (some w) = true) : ¬ (xv E w).category = 2 := by rw [xv_cat]; cases w <;> simp [xnl, Value.category] at h ⊢
theorem xHas.st1 {lc lc' : Array Slot} {nL : Nat} {ls ls' : List (Option Value)} {i : Nat} {v : Value} (h : xHas E lc nL ls) (hs : xSt1 ls ls' i v)
    (h' : lv_has lc' nL ((i, xv E v) :: (xpr E nL ls).filter (fun q => !(q.1 == i) && !(q.1 + 1 == i && q.2.category == 2)))) : xHas E lc' nL ls' := by
  refine ⟨h'.1, h'.2.1, fun j w hw => ?_⟩
  rcases hs j w hw with ⟨rfl, rfl⟩ | ⟨h1, h2, h3⟩
  · exact h'.2.2 _ List.mem_cons_self
  · refine h'.2.2 (j, xv E w) (List.mem_cons_of_mem _ (List.mem_filter.mpr ⟨xpr_mem ⟨h.lt h2, h2⟩, ?_⟩))
    by_cases e : j + 1 = i
    · have := xnl_cat (E := E) (h3 e)
      simp [h1, this]
    · simp [h1, e]
theorem xHas.st2 {lc lc' : Array Slot} {nL : Nat} {ls ls' : List (Option Value)} {i : Nat} {v : Value} (h : xHas E lc nL ls) (hs : xSt2 ls ls' i v)
    (h' : lv_has lc' nL ((i, xv E v) :: (xpr E nL ls).filter (fun q => !(q.1 == i) && (!(q.1 == i + 1) && !(q.1 + 1 == i && q.2.category == 2))))) : xHas E lc' nL ls' := by
  refine ⟨h'.1, h'.2.1, fun j w hw => ?_⟩
  rcases hs j w hw with ⟨rfl, rfl⟩ | ⟨h1, h4, h2, h3⟩
  · exact h'.2.2 _ List.mem_cons_self
  · refine h'.2.2 (j, xv E w) (List.mem_cons_of_mem _ (List.mem_filter.mpr ⟨xpr_mem ⟨h.lt h2, h2⟩, ?_⟩))
    by_cases e : j + 1 = i
    · have := xnl_cat (E := E) (h3 e)
      simp [h1, this, h4]
    · simp [h1, e, h4]
theorem xSt1_0 {o : Option Value} {tl : List (Option Value)} {v : Value} : xSt1 (o :: tl) (some v :: tl) 0 v := by
  intro j w h
  cases j with
  | zero => left; simp at h; exact ⟨rfl, h.symm⟩
  | succ j => right; exact ⟨by omega, by simpa using h, fun e => by omega⟩
theorem xSt1_1 {a o : Option Value} {tl : List (Option Value)} {v : Value} (ha : xnl a = true) : xSt1 (a :: o :: tl) (a :: some v :: tl) 1 v := by
  intro j w h
  rcases j with _ | _ | j
  · right; simp at h; subst h; exact ⟨by omega, by simp, fun _ => ha⟩
  · left; simp at h; exact ⟨rfl, h.symm⟩
  · right; exact ⟨by omega, by simpa using h, fun e => by omega⟩
theorem xSt1.cons {ls ls' : List (Option Value)} {i : Nat} {v : Value} (a : Option Value) (h : xSt1 ls ls' (i + 1) v) : xSt1 (a :: ls) (a :: ls') (i + 2) v := by
  intro j w hw
  cases j with
  | zero => right; exact ⟨by omega, by simpa using hw, fun e => by omega⟩
  | succ j =>
    rcases h j w (by simpa using hw) with ⟨h1, h2⟩ | ⟨h1, h2, h3⟩
    · left; exact ⟨by omega, h2⟩
    · right; exact ⟨by omega, by simpa using h2, fun e => h3 (by omega)⟩
theorem xSt2_0 {o o2 : Option Value} {tl : List (Option Value)} {v : Value} : xSt2 (o :: o2 :: tl) (some v :: none :: tl) 0 v := by
  intro j w h
  rcases j with _ | _ | j
  · left; simp at h; exact ⟨rfl, h.symm⟩
  · simp at h
  · right; exact ⟨by omega, by omega, by simpa using h, fun e => by omega⟩
theorem xSt2_1 {a o o2 : Option Value} {tl : List (Option Value)} {v : Value} (ha : xnl a = true) : xSt2 (a :: o :: o2 :: tl) (a :: some v :: none :: tl) 1 v := by
  intro j w h
  rcases j with _ | _ | _ | j
  · right; simp at h; subst h; exact ⟨by omega, by omega, by simp, fun _ => ha⟩
  · left; simp at h; exact ⟨rfl, h.symm⟩
  · simp at h
  · right; exact ⟨by omega, by omega, by simpa using h, fun e => by omega⟩
theorem xSt2.cons {ls ls' : List (Option Value)} {i : Nat} {v : Value} (a : Option Value) (h : xSt2 ls ls' (i + 1) v) : xSt2 (a :: ls) (a :: ls') (i + 2) v := by
  intro j w hw
  cases j with
  | zero => right; exact ⟨by omega, by omega, by simpa using hw, fun e => by omega⟩
  | succ j =>
    rcases h j w (by simpa using hw) with ⟨h1, h2⟩ | ⟨h1, h4, h2, h3⟩
    · left; exact ⟨by omega, h2⟩
    · right; exact ⟨by omega, by omega, by simpa using h2, fun e => h3 (by omega)⟩
theorem VS_i_n {k : Fin 4} {x : Int32} {ls' : List (Option Value)} (d : decode Y.2.1 pc = .ok (.istore_n k, 1)) (hn : (k : Nat) < Y.2.2.1) (hs : xSt1 ls ls' k (.int x)) (kk : V E l Y Q q cs (pc + 1) ls' st) : V E l Y Q q cs pc ls (.int x :: st) :=
  fun p e s m args below meth c C H locs lc hl hR hS => lv_istore_n C.1 C.2.1 d rfl hl.lv hn rfl fun lc' h' => kk p e s m args below meth c C H locs lc' (hl.st1 hs h') hR hS
theorem VS_i {i : Nat} {x : Int32} {ls' : List (Option Value)} (d : decode Y.2.1 pc = .ok (.istore i, 2)) (hn : i < Y.2.2.1) (hs : xSt1 ls ls' i (.int x)) (kk : V E l Y Q q cs (pc + 2) ls' st) : V E l Y Q q cs pc ls (.int x :: st) :=
  fun p e s m args below meth c C H locs lc hl hR hS => lv_istore C.1 C.2.1 d hl.lv hn rfl fun lc' h' => kk p e s m args below meth c C H locs lc' (hl.st1 hs h') hR hS
theorem VS_a_n {k : Fin 4} {x : Nat} {ls' : List (Option Value)} (d : decode Y.2.1 pc = .ok (.astore_n k, 1)) (hn : (k : Nat) < Y.2.2.1) (hs : xSt1 ls ls' k (.ref x)) (kk : V E l Y Q q cs (pc + 1) ls' st) : V E l Y Q q cs pc ls (.ref x :: st) :=
  fun p e s m args below meth c C H locs lc hl hR hS => lv_astore_n C.1 C.2.1 d rfl hl.lv hn rfl fun lc' h' => kk p e s m args below meth c C H locs lc' (hl.st1 hs h') hR hS
theorem VS_a {i : Nat} {x : Nat} {ls' : List (Option Value)} (d : decode Y.2.1 pc = .ok (.astore i, 2)) (hn : i < Y.2.2.1) (hs : xSt1 ls ls' i (.ref x)) (kk : V E l Y Q q cs (pc + 2) ls' st) : V E l Y Q q cs pc ls (.ref x :: st) :=
  fun p e s m args below meth c C H locs lc hl hR hS => lv_astore C.1 C.2.1 d hl.lv hn rfl fun lc' h' => kk p e s m args below meth c C H locs lc' (hl.st1 hs h') hR hS
theorem VS_l_n {k : Fin 4} {x : Int64} {ls' : List (Option Value)} (d : decode Y.2.1 pc = .ok (.lstore_n k, 1)) (hn : (k : Nat) + 1 < Y.2.2.1) (hs : xSt2 ls ls' k (.long x)) (kk : V E l Y Q q cs (pc + 1) ls' st) : V E l Y Q q cs pc ls (.long x :: st) :=
  fun p e s m args below meth c C H locs lc hl hR hS => lv_lstore_n C.1 C.2.1 d rfl hl.lv hn rfl fun lc' h' => kk p e s m args below meth c C H locs lc' (hl.st2 hs h') hR hS
theorem VS_l {i : Nat} {x : Int64} {ls' : List (Option Value)} (d : decode Y.2.1 pc = .ok (.lstore i, 2)) (hn : i + 1 < Y.2.2.1) (hs : xSt2 ls ls' i (.long x)) (kk : V E l Y Q q cs (pc + 2) ls' st) : V E l Y Q q cs pc ls (.long x :: st) :=
  fun p e s m args below meth c C H locs lc hl hR hS => lv_lstore C.1 C.2.1 d hl.lv hn rfl fun lc' h' => kk p e s m args below meth c C H locs lc' (hl.st2 hs h') hR hS
theorem VS_inc {i : Nat} {n : Int} {x v : Int32} {ls' : List (Option Value)} (d : decode Y.2.1 pc = .ok (.iinc i n, 3)) (hx : ls[i]? = some (some (.int x))) (hv : x + Int32.ofInt n = v) (hs : xSt1 ls ls' i (.int v)) (kk : V E l Y Q q cs (pc + 3) ls' st) : V E l Y Q q cs pc ls st := by
  intro p e s m args below meth c C H locs lc hl hR hS
  obtain ⟨k, hk⟩ := List.getElem?_of_mem (xpr_mem (E := E) ⟨hl.lt hx, hx⟩)
  exact lv_iinc C.1 C.2.1 d hl.lv hk hv (hl.lt hx) rfl fun lc' h' => kk p e s m args below meth c C H locs lc' (hl.st1 hs h') hR hS
theorem V_ild0 {tl : List (Option Value)} {x : Int32} (d : decode Y.2.1 pc = .ok (.iload_n 0, 1)) (k : V E l Y Q q cs (pc + 1) (some (.int x) :: tl) (.int x :: st)) : V E l Y Q q cs pc (some (.int x) :: tl) st :=
  fun p e s m args below meth c C H locs lc hl hR hS => lv_iload_n C.1 C.2.1 d rfl (hl.2.2 0 (.int x) rfl) (k p e s m args below meth c C H locs lc hl hR hS)
theorem V_ald0 {tl : List (Option Value)} {x : Nat} (d : decode Y.2.1 pc = .ok (.aload_n 0, 1)) (k : V E l Y Q q cs (pc + 1) (some (.ref x) :: tl) (.ref x :: st)) : V E l Y Q q cs pc (some (.ref x) :: tl) st :=
  fun p e s m args below meth c C H locs lc hl hR hS => lv_aload_n C.1 C.2.1 d rfl (hl.2.2 0 (.ref x) rfl) (k p e s m args below meth c C H locs lc hl hR hS)
theorem V_lld0 {tl : List (Option Value)} {x : Int64} (d : decode Y.2.1 pc = .ok (.lload_n 0, 1)) (k : V E l Y Q q cs (pc + 1) (some (.long x) :: tl) (.long x :: st)) : V E l Y Q q cs pc (some (.long x) :: tl) st :=
  fun p e s m args below meth c C H locs lc hl hR hS => lv_lload_n C.1 C.2.1 d rfl (hl.2.2 0 (.long x) rfl) (k p e s m args below meth c C H locs lc hl hR hS)
theorem V_ist0 {o : Option Value} {tl : List (Option Value)} {x : Int32} (d : decode Y.2.1 pc = .ok (.istore_n 0, 1)) (hn : 0 < Y.2.2.1 := by decide) (k : V E l Y Q q cs (pc + 1) (some (.int x) :: tl) st) : V E l Y Q q cs pc (o :: tl) (.int x :: st) := VS_i_n d hn (xSt1_0) k
theorem V_ast0 {o : Option Value} {tl : List (Option Value)} {x : Nat} (d : decode Y.2.1 pc = .ok (.astore_n 0, 1)) (hn : 0 < Y.2.2.1 := by decide) (k : V E l Y Q q cs (pc + 1) (some (.ref x) :: tl) st) : V E l Y Q q cs pc (o :: tl) (.ref x :: st) := VS_a_n d hn (xSt1_0) k
theorem V_inc0 {tl : List (Option Value)} {n : Int} {x v : Int32} (d : decode Y.2.1 pc = .ok (.iinc 0 n, 3)) (hv : x + Int32.ofInt n = v) (k : V E l Y Q q cs (pc + 3) (some (.int v) :: tl) st) : V E l Y Q q cs pc (some (.int x) :: tl) st := VS_inc d rfl hv (xSt1_0) k
theorem V_lst0 {o o2 : Option Value} {tl : List (Option Value)} {x : Int64} (d : decode Y.2.1 pc = .ok (.lstore_n 0, 1)) (hn : 0 + 1 < Y.2.2.1 := by decide) (k : V E l Y Q q cs (pc + 1) (some (.long x) :: none :: tl) st) : V E l Y Q q cs pc (o :: o2 :: tl) (.long x :: st) := VS_l_n d hn (xSt2_0) k
theorem V_ild1 {a0 : Option Value} {tl : List (Option Value)} {x : Int32} (d : decode Y.2.1 pc = .ok (.iload_n 1, 1)) (k : V E l Y Q q cs (pc + 1) (a0 :: some (.int x) :: tl) (.int x :: st)) : V E l Y Q q cs pc (a0 :: some (.int x) :: tl) st :=
  fun p e s m args below meth c C H locs lc hl hR hS => lv_iload_n C.1 C.2.1 d rfl (hl.2.2 1 (.int x) rfl) (k p e s m args below meth c C H locs lc hl hR hS)
theorem V_ald1 {a0 : Option Value} {tl : List (Option Value)} {x : Nat} (d : decode Y.2.1 pc = .ok (.aload_n 1, 1)) (k : V E l Y Q q cs (pc + 1) (a0 :: some (.ref x) :: tl) (.ref x :: st)) : V E l Y Q q cs pc (a0 :: some (.ref x) :: tl) st :=
  fun p e s m args below meth c C H locs lc hl hR hS => lv_aload_n C.1 C.2.1 d rfl (hl.2.2 1 (.ref x) rfl) (k p e s m args below meth c C H locs lc hl hR hS)
theorem V_lld1 {a0 : Option Value} {tl : List (Option Value)} {x : Int64} (d : decode Y.2.1 pc = .ok (.lload_n 1, 1)) (k : V E l Y Q q cs (pc + 1) (a0 :: some (.long x) :: tl) (.long x :: st)) : V E l Y Q q cs pc (a0 :: some (.long x) :: tl) st :=
  fun p e s m args below meth c C H locs lc hl hR hS => lv_lload_n C.1 C.2.1 d rfl (hl.2.2 1 (.long x) rfl) (k p e s m args below meth c C H locs lc hl hR hS)
theorem V_ist1 {a0 : Option Value} {o : Option Value} {tl : List (Option Value)} {x : Int32} (d : decode Y.2.1 pc = .ok (.istore_n 1, 1)) (ha : xnl a0 = true := by rfl) (hn : 1 < Y.2.2.1 := by decide) (k : V E l Y Q q cs (pc + 1) (a0 :: some (.int x) :: tl) st) : V E l Y Q q cs pc (a0 :: o :: tl) (.int x :: st) := VS_i_n d hn (xSt1_1 ha) k
theorem V_ast1 {a0 : Option Value} {o : Option Value} {tl : List (Option Value)} {x : Nat} (d : decode Y.2.1 pc = .ok (.astore_n 1, 1)) (ha : xnl a0 = true := by rfl) (hn : 1 < Y.2.2.1 := by decide) (k : V E l Y Q q cs (pc + 1) (a0 :: some (.ref x) :: tl) st) : V E l Y Q q cs pc (a0 :: o :: tl) (.ref x :: st) := VS_a_n d hn (xSt1_1 ha) k
theorem V_inc1 {a0 : Option Value} {tl : List (Option Value)} {n : Int} {x v : Int32} (d : decode Y.2.1 pc = .ok (.iinc 1 n, 3)) (ha : xnl a0 = true := by rfl) (hv : x + Int32.ofInt n = v) (k : V E l Y Q q cs (pc + 3) (a0 :: some (.int v) :: tl) st) : V E l Y Q q cs pc (a0 :: some (.int x) :: tl) st := VS_inc d rfl hv (xSt1_1 ha) k
theorem V_lst1 {a0 : Option Value} {o o2 : Option Value} {tl : List (Option Value)} {x : Int64} (d : decode Y.2.1 pc = .ok (.lstore_n 1, 1)) (ha : xnl a0 = true := by rfl) (hn : 1 + 1 < Y.2.2.1 := by decide) (k : V E l Y Q q cs (pc + 1) (a0 :: some (.long x) :: none :: tl) st) : V E l Y Q q cs pc (a0 :: o :: o2 :: tl) (.long x :: st) := VS_l_n d hn (xSt2_1 ha) k
theorem V_ild2 {a0 a1 : Option Value} {tl : List (Option Value)} {x : Int32} (d : decode Y.2.1 pc = .ok (.iload_n 2, 1)) (k : V E l Y Q q cs (pc + 1) (a0 :: a1 :: some (.int x) :: tl) (.int x :: st)) : V E l Y Q q cs pc (a0 :: a1 :: some (.int x) :: tl) st :=
  fun p e s m args below meth c C H locs lc hl hR hS => lv_iload_n C.1 C.2.1 d rfl (hl.2.2 2 (.int x) rfl) (k p e s m args below meth c C H locs lc hl hR hS)
theorem V_ald2 {a0 a1 : Option Value} {tl : List (Option Value)} {x : Nat} (d : decode Y.2.1 pc = .ok (.aload_n 2, 1)) (k : V E l Y Q q cs (pc + 1) (a0 :: a1 :: some (.ref x) :: tl) (.ref x :: st)) : V E l Y Q q cs pc (a0 :: a1 :: some (.ref x) :: tl) st :=
  fun p e s m args below meth c C H locs lc hl hR hS => lv_aload_n C.1 C.2.1 d rfl (hl.2.2 2 (.ref x) rfl) (k p e s m args below meth c C H locs lc hl hR hS)
theorem V_lld2 {a0 a1 : Option Value} {tl : List (Option Value)} {x : Int64} (d : decode Y.2.1 pc = .ok (.lload_n 2, 1)) (k : V E l Y Q q cs (pc + 1) (a0 :: a1 :: some (.long x) :: tl) (.long x :: st)) : V E l Y Q q cs pc (a0 :: a1 :: some (.long x) :: tl) st :=
  fun p e s m args below meth c C H locs lc hl hR hS => lv_lload_n C.1 C.2.1 d rfl (hl.2.2 2 (.long x) rfl) (k p e s m args below meth c C H locs lc hl hR hS)
theorem V_ist2 {a0 a1 : Option Value} {o : Option Value} {tl : List (Option Value)} {x : Int32} (d : decode Y.2.1 pc = .ok (.istore_n 2, 1)) (ha : xnl a1 = true := by rfl) (hn : 2 < Y.2.2.1 := by decide) (k : V E l Y Q q cs (pc + 1) (a0 :: a1 :: some (.int x) :: tl) st) : V E l Y Q q cs pc (a0 :: a1 :: o :: tl) (.int x :: st) := VS_i_n d hn ((xSt1.cons a0 (xSt1_1 ha))) k
theorem V_ast2 {a0 a1 : Option Value} {o : Option Value} {tl : List (Option Value)} {x : Nat} (d : decode Y.2.1 pc = .ok (.astore_n 2, 1)) (ha : xnl a1 = true := by rfl) (hn : 2 < Y.2.2.1 := by decide) (k : V E l Y Q q cs (pc + 1) (a0 :: a1 :: some (.ref x) :: tl) st) : V E l Y Q q cs pc (a0 :: a1 :: o :: tl) (.ref x :: st) := VS_a_n d hn ((xSt1.cons a0 (xSt1_1 ha))) k
theorem V_inc2 {a0 a1 : Option Value} {tl : List (Option Value)} {n : Int} {x v : Int32} (d : decode Y.2.1 pc = .ok (.iinc 2 n, 3)) (ha : xnl a1 = true := by rfl) (hv : x + Int32.ofInt n = v) (k : V E l Y Q q cs (pc + 3) (a0 :: a1 :: some (.int v) :: tl) st) : V E l Y Q q cs pc (a0 :: a1 :: some (.int x) :: tl) st := VS_inc d rfl hv ((xSt1.cons a0 (xSt1_1 ha))) k
theorem V_lst2 {a0 a1 : Option Value} {o o2 : Option Value} {tl : List (Option Value)} {x : Int64} (d : decode Y.2.1 pc = .ok (.lstore_n 2, 1)) (ha : xnl a1 = true := by rfl) (hn : 2 + 1 < Y.2.2.1 := by decide) (k : V E l Y Q q cs (pc + 1) (a0 :: a1 :: some (.long x) :: none :: tl) st) : V E l Y Q q cs pc (a0 :: a1 :: o :: o2 :: tl) (.long x :: st) := VS_l_n d hn ((xSt2.cons a0 (xSt2_1 ha))) k
theorem V_ild3 {a0 a1 a2 : Option Value} {tl : List (Option Value)} {x : Int32} (d : decode Y.2.1 pc = .ok (.iload_n 3, 1)) (k : V E l Y Q q cs (pc + 1) (a0 :: a1 :: a2 :: some (.int x) :: tl) (.int x :: st)) : V E l Y Q q cs pc (a0 :: a1 :: a2 :: some (.int x) :: tl) st :=
  fun p e s m args below meth c C H locs lc hl hR hS => lv_iload_n C.1 C.2.1 d rfl (hl.2.2 3 (.int x) rfl) (k p e s m args below meth c C H locs lc hl hR hS)
theorem V_ald3 {a0 a1 a2 : Option Value} {tl : List (Option Value)} {x : Nat} (d : decode Y.2.1 pc = .ok (.aload_n 3, 1)) (k : V E l Y Q q cs (pc + 1) (a0 :: a1 :: a2 :: some (.ref x) :: tl) (.ref x :: st)) : V E l Y Q q cs pc (a0 :: a1 :: a2 :: some (.ref x) :: tl) st :=
  fun p e s m args below meth c C H locs lc hl hR hS => lv_aload_n C.1 C.2.1 d rfl (hl.2.2 3 (.ref x) rfl) (k p e s m args below meth c C H locs lc hl hR hS)
theorem V_lld3 {a0 a1 a2 : Option Value} {tl : List (Option Value)} {x : Int64} (d : decode Y.2.1 pc = .ok (.lload_n 3, 1)) (k : V E l Y Q q cs (pc + 1) (a0 :: a1 :: a2 :: some (.long x) :: tl) (.long x :: st)) : V E l Y Q q cs pc (a0 :: a1 :: a2 :: some (.long x) :: tl) st :=
  fun p e s m args below meth c C H locs lc hl hR hS => lv_lload_n C.1 C.2.1 d rfl (hl.2.2 3 (.long x) rfl) (k p e s m args below meth c C H locs lc hl hR hS)
theorem V_ist3 {a0 a1 a2 : Option Value} {o : Option Value} {tl : List (Option Value)} {x : Int32} (d : decode Y.2.1 pc = .ok (.istore_n 3, 1)) (ha : xnl a2 = true := by rfl) (hn : 3 < Y.2.2.1 := by decide) (k : V E l Y Q q cs (pc + 1) (a0 :: a1 :: a2 :: some (.int x) :: tl) st) : V E l Y Q q cs pc (a0 :: a1 :: a2 :: o :: tl) (.int x :: st) := VS_i_n d hn ((xSt1.cons a0 ((xSt1.cons a1 (xSt1_1 ha))))) k
theorem V_ast3 {a0 a1 a2 : Option Value} {o : Option Value} {tl : List (Option Value)} {x : Nat} (d : decode Y.2.1 pc = .ok (.astore_n 3, 1)) (ha : xnl a2 = true := by rfl) (hn : 3 < Y.2.2.1 := by decide) (k : V E l Y Q q cs (pc + 1) (a0 :: a1 :: a2 :: some (.ref x) :: tl) st) : V E l Y Q q cs pc (a0 :: a1 :: a2 :: o :: tl) (.ref x :: st) := VS_a_n d hn ((xSt1.cons a0 ((xSt1.cons a1 (xSt1_1 ha))))) k
theorem V_inc3 {a0 a1 a2 : Option Value} {tl : List (Option Value)} {n : Int} {x v : Int32} (d : decode Y.2.1 pc = .ok (.iinc 3 n, 3)) (ha : xnl a2 = true := by rfl) (hv : x + Int32.ofInt n = v) (k : V E l Y Q q cs (pc + 3) (a0 :: a1 :: a2 :: some (.int v) :: tl) st) : V E l Y Q q cs pc (a0 :: a1 :: a2 :: some (.int x) :: tl) st := VS_inc d rfl hv ((xSt1.cons a0 ((xSt1.cons a1 (xSt1_1 ha))))) k
theorem V_lst3 {a0 a1 a2 : Option Value} {o o2 : Option Value} {tl : List (Option Value)} {x : Int64} (d : decode Y.2.1 pc = .ok (.lstore_n 3, 1)) (ha : xnl a2 = true := by rfl) (hn : 3 + 1 < Y.2.2.1 := by decide) (k : V E l Y Q q cs (pc + 1) (a0 :: a1 :: a2 :: some (.long x) :: none :: tl) st) : V E l Y Q q cs pc (a0 :: a1 :: a2 :: o :: o2 :: tl) (.long x :: st) := VS_l_n d hn ((xSt2.cons a0 ((xSt2.cons a1 (xSt2_1 ha))))) k
theorem V_ild4 {a0 a1 a2 a3 : Option Value} {tl : List (Option Value)} {x : Int32} (d : decode Y.2.1 pc = .ok (.iload 4, 2)) (k : V E l Y Q q cs (pc + 2) (a0 :: a1 :: a2 :: a3 :: some (.int x) :: tl) (.int x :: st)) : V E l Y Q q cs pc (a0 :: a1 :: a2 :: a3 :: some (.int x) :: tl) st :=
  fun p e s m args below meth c C H locs lc hl hR hS => lv_iload C.1 C.2.1 d (hl.2.2 4 (.int x) rfl) (k p e s m args below meth c C H locs lc hl hR hS)
theorem V_ald4 {a0 a1 a2 a3 : Option Value} {tl : List (Option Value)} {x : Nat} (d : decode Y.2.1 pc = .ok (.aload 4, 2)) (k : V E l Y Q q cs (pc + 2) (a0 :: a1 :: a2 :: a3 :: some (.ref x) :: tl) (.ref x :: st)) : V E l Y Q q cs pc (a0 :: a1 :: a2 :: a3 :: some (.ref x) :: tl) st :=
  fun p e s m args below meth c C H locs lc hl hR hS => lv_aload C.1 C.2.1 d (hl.2.2 4 (.ref x) rfl) (k p e s m args below meth c C H locs lc hl hR hS)
theorem V_lld4 {a0 a1 a2 a3 : Option Value} {tl : List (Option Value)} {x : Int64} (d : decode Y.2.1 pc = .ok (.lload 4, 2)) (k : V E l Y Q q cs (pc + 2) (a0 :: a1 :: a2 :: a3 :: some (.long x) :: tl) (.long x :: st)) : V E l Y Q q cs pc (a0 :: a1 :: a2 :: a3 :: some (.long x) :: tl) st :=
  fun p e s m args below meth c C H locs lc hl hR hS => lv_lload C.1 C.2.1 d (hl.2.2 4 (.long x) rfl) (k p e s m args below meth c C H locs lc hl hR hS)
theorem V_ist4 {a0 a1 a2 a3 : Option Value} {o : Option Value} {tl : List (Option Value)} {x : Int32} (d : decode Y.2.1 pc = .ok (.istore 4, 2)) (ha : xnl a3 = true := by rfl) (hn : 4 < Y.2.2.1 := by decide) (k : V E l Y Q q cs (pc + 2) (a0 :: a1 :: a2 :: a3 :: some (.int x) :: tl) st) : V E l Y Q q cs pc (a0 :: a1 :: a2 :: a3 :: o :: tl) (.int x :: st) := VS_i d hn ((xSt1.cons a0 ((xSt1.cons a1 ((xSt1.cons a2 (xSt1_1 ha))))))) k
theorem V_ast4 {a0 a1 a2 a3 : Option Value} {o : Option Value} {tl : List (Option Value)} {x : Nat} (d : decode Y.2.1 pc = .ok (.astore 4, 2)) (ha : xnl a3 = true := by rfl) (hn : 4 < Y.2.2.1 := by decide) (k : V E l Y Q q cs (pc + 2) (a0 :: a1 :: a2 :: a3 :: some (.ref x) :: tl) st) : V E l Y Q q cs pc (a0 :: a1 :: a2 :: a3 :: o :: tl) (.ref x :: st) := VS_a d hn ((xSt1.cons a0 ((xSt1.cons a1 ((xSt1.cons a2 (xSt1_1 ha))))))) k
theorem V_inc4 {a0 a1 a2 a3 : Option Value} {tl : List (Option Value)} {n : Int} {x v : Int32} (d : decode Y.2.1 pc = .ok (.iinc 4 n, 3)) (ha : xnl a3 = true := by rfl) (hv : x + Int32.ofInt n = v) (k : V E l Y Q q cs (pc + 3) (a0 :: a1 :: a2 :: a3 :: some (.int v) :: tl) st) : V E l Y Q q cs pc (a0 :: a1 :: a2 :: a3 :: some (.int x) :: tl) st := VS_inc d rfl hv ((xSt1.cons a0 ((xSt1.cons a1 ((xSt1.cons a2 (xSt1_1 ha))))))) k
theorem V_lst4 {a0 a1 a2 a3 : Option Value} {o o2 : Option Value} {tl : List (Option Value)} {x : Int64} (d : decode Y.2.1 pc = .ok (.lstore 4, 2)) (ha : xnl a3 = true := by rfl) (hn : 4 + 1 < Y.2.2.1 := by decide) (k : V E l Y Q q cs (pc + 2) (a0 :: a1 :: a2 :: a3 :: some (.long x) :: none :: tl) st) : V E l Y Q q cs pc (a0 :: a1 :: a2 :: a3 :: o :: o2 :: tl) (.long x :: st) := VS_l d hn ((xSt2.cons a0 ((xSt2.cons a1 ((xSt2.cons a2 (xSt2_1 ha))))))) k
theorem V_ild5 {a0 a1 a2 a3 a4 : Option Value} {tl : List (Option Value)} {x : Int32} (d : decode Y.2.1 pc = .ok (.iload 5, 2)) (k : V E l Y Q q cs (pc + 2) (a0 :: a1 :: a2 :: a3 :: a4 :: some (.int x) :: tl) (.int x :: st)) : V E l Y Q q cs pc (a0 :: a1 :: a2 :: a3 :: a4 :: some (.int x) :: tl) st :=
  fun p e s m args below meth c C H locs lc hl hR hS => lv_iload C.1 C.2.1 d (hl.2.2 5 (.int x) rfl) (k p e s m args below meth c C H locs lc hl hR hS)
theorem V_ald5 {a0 a1 a2 a3 a4 : Option Value} {tl : List (Option Value)} {x : Nat} (d : decode Y.2.1 pc = .ok (.aload 5, 2)) (k : V E l Y Q q cs (pc + 2) (a0 :: a1 :: a2 :: a3 :: a4 :: some (.ref x) :: tl) (.ref x :: st)) : V E l Y Q q cs pc (a0 :: a1 :: a2 :: a3 :: a4 :: some (.ref x) :: tl) st :=
  fun p e s m args below meth c C H locs lc hl hR hS => lv_aload C.1 C.2.1 d (hl.2.2 5 (.ref x) rfl) (k p e s m args below meth c C H locs lc hl hR hS)
theorem V_lld5 {a0 a1 a2 a3 a4 : Option Value} {tl : List (Option Value)} {x : Int64} (d : decode Y.2.1 pc = .ok (.lload 5, 2)) (k : V E l Y Q q cs (pc + 2) (a0 :: a1 :: a2 :: a3 :: a4 :: some (.long x) :: tl) (.long x :: st)) : V E l Y Q q cs pc (a0 :: a1 :: a2 :: a3 :: a4 :: some (.long x) :: tl) st :=
  fun p e s m args below meth c C H locs lc hl hR hS => lv_lload C.1 C.2.1 d (hl.2.2 5 (.long x) rfl) (k p e s m args below meth c C H locs lc hl hR hS)
theorem V_ist5 {a0 a1 a2 a3 a4 : Option Value} {o : Option Value} {tl : List (Option Value)} {x : Int32} (d : decode Y.2.1 pc = .ok (.istore 5, 2)) (ha : xnl a4 = true := by rfl) (hn : 5 < Y.2.2.1 := by decide) (k : V E l Y Q q cs (pc + 2) (a0 :: a1 :: a2 :: a3 :: a4 :: some (.int x) :: tl) st) : V E l Y Q q cs pc (a0 :: a1 :: a2 :: a3 :: a4 :: o :: tl) (.int x :: st) := VS_i d hn ((xSt1.cons a0 ((xSt1.cons a1 ((xSt1.cons a2 ((xSt1.cons a3 (xSt1_1 ha))))))))) k
theorem V_ast5 {a0 a1 a2 a3 a4 : Option Value} {o : Option Value} {tl : List (Option Value)} {x : Nat} (d : decode Y.2.1 pc = .ok (.astore 5, 2)) (ha : xnl a4 = true := by rfl) (hn : 5 < Y.2.2.1 := by decide) (k : V E l Y Q q cs (pc + 2) (a0 :: a1 :: a2 :: a3 :: a4 :: some (.ref x) :: tl) st) : V E l Y Q q cs pc (a0 :: a1 :: a2 :: a3 :: a4 :: o :: tl) (.ref x :: st) := VS_a d hn ((xSt1.cons a0 ((xSt1.cons a1 ((xSt1.cons a2 ((xSt1.cons a3 (xSt1_1 ha))))))))) k
theorem V_inc5 {a0 a1 a2 a3 a4 : Option Value} {tl : List (Option Value)} {n : Int} {x v : Int32} (d : decode Y.2.1 pc = .ok (.iinc 5 n, 3)) (ha : xnl a4 = true := by rfl) (hv : x + Int32.ofInt n = v) (k : V E l Y Q q cs (pc + 3) (a0 :: a1 :: a2 :: a3 :: a4 :: some (.int v) :: tl) st) : V E l Y Q q cs pc (a0 :: a1 :: a2 :: a3 :: a4 :: some (.int x) :: tl) st := VS_inc d rfl hv ((xSt1.cons a0 ((xSt1.cons a1 ((xSt1.cons a2 ((xSt1.cons a3 (xSt1_1 ha))))))))) k
theorem V_lst5 {a0 a1 a2 a3 a4 : Option Value} {o o2 : Option Value} {tl : List (Option Value)} {x : Int64} (d : decode Y.2.1 pc = .ok (.lstore 5, 2)) (ha : xnl a4 = true := by rfl) (hn : 5 + 1 < Y.2.2.1 := by decide) (k : V E l Y Q q cs (pc + 2) (a0 :: a1 :: a2 :: a3 :: a4 :: some (.long x) :: none :: tl) st) : V E l Y Q q cs pc (a0 :: a1 :: a2 :: a3 :: a4 :: o :: o2 :: tl) (.long x :: st) := VS_l d hn ((xSt2.cons a0 ((xSt2.cons a1 ((xSt2.cons a2 ((xSt2.cons a3 (xSt2_1 ha))))))))) k
theorem V_ild6 {a0 a1 a2 a3 a4 a5 : Option Value} {tl : List (Option Value)} {x : Int32} (d : decode Y.2.1 pc = .ok (.iload 6, 2)) (k : V E l Y Q q cs (pc + 2) (a0 :: a1 :: a2 :: a3 :: a4 :: a5 :: some (.int x) :: tl) (.int x :: st)) : V E l Y Q q cs pc (a0 :: a1 :: a2 :: a3 :: a4 :: a5 :: some (.int x) :: tl) st :=
  fun p e s m args below meth c C H locs lc hl hR hS => lv_iload C.1 C.2.1 d (hl.2.2 6 (.int x) rfl) (k p e s m args below meth c C H locs lc hl hR hS)
theorem V_ald6 {a0 a1 a2 a3 a4 a5 : Option Value} {tl : List (Option Value)} {x : Nat} (d : decode Y.2.1 pc = .ok (.aload 6, 2)) (k : V E l Y Q q cs (pc + 2) (a0 :: a1 :: a2 :: a3 :: a4 :: a5 :: some (.ref x) :: tl) (.ref x :: st)) : V E l Y Q q cs pc (a0 :: a1 :: a2 :: a3 :: a4 :: a5 :: some (.ref x) :: tl) st :=
  fun p e s m args below meth c C H locs lc hl hR hS => lv_aload C.1 C.2.1 d (hl.2.2 6 (.ref x) rfl) (k p e s m args below meth c C H locs lc hl hR hS)
theorem V_lld6 {a0 a1 a2 a3 a4 a5 : Option Value} {tl : List (Option Value)} {x : Int64} (d : decode Y.2.1 pc = .ok (.lload 6, 2)) (k : V E l Y Q q cs (pc + 2) (a0 :: a1 :: a2 :: a3 :: a4 :: a5 :: some (.long x) :: tl) (.long x :: st)) : V E l Y Q q cs pc (a0 :: a1 :: a2 :: a3 :: a4 :: a5 :: some (.long x) :: tl) st :=
  fun p e s m args below meth c C H locs lc hl hR hS => lv_lload C.1 C.2.1 d (hl.2.2 6 (.long x) rfl) (k p e s m args below meth c C H locs lc hl hR hS)
theorem V_ist6 {a0 a1 a2 a3 a4 a5 : Option Value} {o : Option Value} {tl : List (Option Value)} {x : Int32} (d : decode Y.2.1 pc = .ok (.istore 6, 2)) (ha : xnl a5 = true := by rfl) (hn : 6 < Y.2.2.1 := by decide) (k : V E l Y Q q cs (pc + 2) (a0 :: a1 :: a2 :: a3 :: a4 :: a5 :: some (.int x) :: tl) st) : V E l Y Q q cs pc (a0 :: a1 :: a2 :: a3 :: a4 :: a5 :: o :: tl) (.int x :: st) := VS_i d hn ((xSt1.cons a0 ((xSt1.cons a1 ((xSt1.cons a2 ((xSt1.cons a3 ((xSt1.cons a4 (xSt1_1 ha))))))))))) k
theorem V_ast6 {a0 a1 a2 a3 a4 a5 : Option Value} {o : Option Value} {tl : List (Option Value)} {x : Nat} (d : decode Y.2.1 pc = .ok (.astore 6, 2)) (ha : xnl a5 = true := by rfl) (hn : 6 < Y.2.2.1 := by decide) (k : V E l Y Q q cs (pc + 2) (a0 :: a1 :: a2 :: a3 :: a4 :: a5 :: some (.ref x) :: tl) st) : V E l Y Q q cs pc (a0 :: a1 :: a2 :: a3 :: a4 :: a5 :: o :: tl) (.ref x :: st) := VS_a d hn ((xSt1.cons a0 ((xSt1.cons a1 ((xSt1.cons a2 ((xSt1.cons a3 ((xSt1.cons a4 (xSt1_1 ha))))))))))) k
theorem V_inc6 {a0 a1 a2 a3 a4 a5 : Option Value} {tl : List (Option Value)} {n : Int} {x v : Int32} (d : decode Y.2.1 pc = .ok (.iinc 6 n, 3)) (ha : xnl a5 = true := by rfl) (hv : x + Int32.ofInt n = v) (k : V E l Y Q q cs (pc + 3) (a0 :: a1 :: a2 :: a3 :: a4 :: a5 :: some (.int v) :: tl) st) : V E l Y Q q cs pc (a0 :: a1 :: a2 :: a3 :: a4 :: a5 :: some (.int x) :: tl) st := VS_inc d rfl hv ((xSt1.cons a0 ((xSt1.cons a1 ((xSt1.cons a2 ((xSt1.cons a3 ((xSt1.cons a4 (xSt1_1 ha))))))))))) k
theorem V_lst6 {a0 a1 a2 a3 a4 a5 : Option Value} {o o2 : Option Value} {tl : List (Option Value)} {x : Int64} (d : decode Y.2.1 pc = .ok (.lstore 6, 2)) (ha : xnl a5 = true := by rfl) (hn : 6 + 1 < Y.2.2.1 := by decide) (k : V E l Y Q q cs (pc + 2) (a0 :: a1 :: a2 :: a3 :: a4 :: a5 :: some (.long x) :: none :: tl) st) : V E l Y Q q cs pc (a0 :: a1 :: a2 :: a3 :: a4 :: a5 :: o :: o2 :: tl) (.long x :: st) := VS_l d hn ((xSt2.cons a0 ((xSt2.cons a1 ((xSt2.cons a2 ((xSt2.cons a3 ((xSt2.cons a4 (xSt2_1 ha))))))))))) k
theorem V_ild7 {a0 a1 a2 a3 a4 a5 a6 : Option Value} {tl : List (Option Value)} {x : Int32} (d : decode Y.2.1 pc = .ok (.iload 7, 2)) (k : V E l Y Q q cs (pc + 2) (a0 :: a1 :: a2 :: a3 :: a4 :: a5 :: a6 :: some (.int x) :: tl) (.int x :: st)) : V E l Y Q q cs pc (a0 :: a1 :: a2 :: a3 :: a4 :: a5 :: a6 :: some (.int x) :: tl) st :=
  fun p e s m args below meth c C H locs lc hl hR hS => lv_iload C.1 C.2.1 d (hl.2.2 7 (.int x) rfl) (k p e s m args below meth c C H locs lc hl hR hS)
theorem V_ald7 {a0 a1 a2 a3 a4 a5 a6 : Option Value} {tl : List (Option Value)} {x : Nat} (d : decode Y.2.1 pc = .ok (.aload 7, 2)) (k : V E l Y Q q cs (pc + 2) (a0 :: a1 :: a2 :: a3 :: a4 :: a5 :: a6 :: some (.ref x) :: tl) (.ref x :: st)) : V E l Y Q q cs pc (a0 :: a1 :: a2 :: a3 :: a4 :: a5 :: a6 :: some (.ref x) :: tl) st :=
  fun p e s m args below meth c C H locs lc hl hR hS => lv_aload C.1 C.2.1 d (hl.2.2 7 (.ref x) rfl) (k p e s m args below meth c C H locs lc hl hR hS)
theorem V_lld7 {a0 a1 a2 a3 a4 a5 a6 : Option Value} {tl : List (Option Value)} {x : Int64} (d : decode Y.2.1 pc = .ok (.lload 7, 2)) (k : V E l Y Q q cs (pc + 2) (a0 :: a1 :: a2 :: a3 :: a4 :: a5 :: a6 :: some (.long x) :: tl) (.long x :: st)) : V E l Y Q q cs pc (a0 :: a1 :: a2 :: a3 :: a4 :: a5 :: a6 :: some (.long x) :: tl) st :=
  fun p e s m args below meth c C H locs lc hl hR hS => lv_lload C.1 C.2.1 d (hl.2.2 7 (.long x) rfl) (k p e s m args below meth c C H locs lc hl hR hS)
theorem V_ist7 {a0 a1 a2 a3 a4 a5 a6 : Option Value} {o : Option Value} {tl : List (Option Value)} {x : Int32} (d : decode Y.2.1 pc = .ok (.istore 7, 2)) (ha : xnl a6 = true := by rfl) (hn : 7 < Y.2.2.1 := by decide) (k : V E l Y Q q cs (pc + 2) (a0 :: a1 :: a2 :: a3 :: a4 :: a5 :: a6 :: some (.int x) :: tl) st) : V E l Y Q q cs pc (a0 :: a1 :: a2 :: a3 :: a4 :: a5 :: a6 :: o :: tl) (.int x :: st) := VS_i d hn ((xSt1.cons a0 ((xSt1.cons a1 ((xSt1.cons a2 ((xSt1.cons a3 ((xSt1.cons a4 ((xSt1.cons a5 (xSt1_1 ha))))))))))))) k
theorem V_ast7 {a0 a1 a2 a3 a4 a5 a6 : Option Value} {o : Option Value} {tl : List (Option Value)} {x : Nat} (d : decode Y.2.1 pc = .ok (.astore 7, 2)) (ha : xnl a6 = true := by rfl) (hn : 7 < Y.2.2.1 := by decide) (k : V E l Y Q q cs (pc + 2) (a0 :: a1 :: a2 :: a3 :: a4 :: a5 :: a6 :: some (.ref x) :: tl) st) : V E l Y Q q cs pc (a0 :: a1 :: a2 :: a3 :: a4 :: a5 :: a6 :: o :: tl) (.ref x :: st) := VS_a d hn ((xSt1.cons a0 ((xSt1.cons a1 ((xSt1.cons a2 ((xSt1.cons a3 ((xSt1.cons a4 ((xSt1.cons a5 (xSt1_1 ha))))))))))))) k
theorem V_inc7 {a0 a1 a2 a3 a4 a5 a6 : Option Value} {tl : List (Option Value)} {n : Int} {x v : Int32} (d : decode Y.2.1 pc = .ok (.iinc 7 n, 3)) (ha : xnl a6 = true := by rfl) (hv : x + Int32.ofInt n = v) (k : V E l Y Q q cs (pc + 3) (a0 :: a1 :: a2 :: a3 :: a4 :: a5 :: a6 :: some (.int v) :: tl) st) : V E l Y Q q cs pc (a0 :: a1 :: a2 :: a3 :: a4 :: a5 :: a6 :: some (.int x) :: tl) st := VS_inc d rfl hv ((xSt1.cons a0 ((xSt1.cons a1 ((xSt1.cons a2 ((xSt1.cons a3 ((xSt1.cons a4 ((xSt1.cons a5 (xSt1_1 ha))))))))))))) k
theorem V_lst7 {a0 a1 a2 a3 a4 a5 a6 : Option Value} {o o2 : Option Value} {tl : List (Option Value)} {x : Int64} (d : decode Y.2.1 pc = .ok (.lstore 7, 2)) (ha : xnl a6 = true := by rfl) (hn : 7 + 1 < Y.2.2.1 := by decide) (k : V E l Y Q q cs (pc + 2) (a0 :: a1 :: a2 :: a3 :: a4 :: a5 :: a6 :: some (.long x) :: none :: tl) st) : V E l Y Q q cs pc (a0 :: a1 :: a2 :: a3 :: a4 :: a5 :: a6 :: o :: o2 :: tl) (.long x :: st) := VS_l d hn ((xSt2.cons a0 ((xSt2.cons a1 ((xSt2.cons a2 ((xSt2.cons a3 ((xSt2.cons a4 ((xSt2.cons a5 (xSt2_1 ha))))))))))))) k
theorem V_ild8 {a0 a1 a2 a3 a4 a5 a6 a7 : Option Value} {tl : List (Option Value)} {x : Int32} (d : decode Y.2.1 pc = .ok (.iload 8, 2)) (k : V E l Y Q q cs (pc + 2) (a0 :: a1 :: a2 :: a3 :: a4 :: a5 :: a6 :: a7 :: some (.int x) :: tl) (.int x :: st)) : V E l Y Q q cs pc (a0 :: a1 :: a2 :: a3 :: a4 :: a5 :: a6 :: a7 :: some (.int x) :: tl) st :=
  fun p e s m args below meth c C H locs lc hl hR hS => lv_iload C.1 C.2.1 d (hl.2.2 8 (.int x) rfl) (k p e s m args below meth c C H locs lc hl hR hS)
theorem V_ald8 {a0 a1 a2 a3 a4 a5 a6 a7 : Option Value} {tl : List (Option Value)} {x : Nat} (d : decode Y.2.1 pc = .ok (.aload 8, 2)) (k : V E l Y Q q cs (pc + 2) (a0 :: a1 :: a2 :: a3 :: a4 :: a5 :: a6 :: a7 :: some (.ref x) :: tl) (.ref x :: st)) : V E l Y Q q cs pc (a0 :: a1 :: a2 :: a3 :: a4 :: a5 :: a6 :: a7 :: some (.ref x) :: tl) st :=
  fun p e s m args below meth c C H locs lc hl hR hS => lv_aload C.1 C.2.1 d (hl.2.2 8 (.ref x) rfl) (k p e s m args below meth c C H locs lc hl hR hS)
theorem V_lld8 {a0 a1 a2 a3 a4 a5 a6 a7 : Option Value} {tl : List (Option Value)} {x : Int64} (d : decode Y.2.1 pc = .ok (.lload 8, 2)) (k : V E l Y Q q cs (pc + 2) (a0 :: a1 :: a2 :: a3 :: a4 :: a5 :: a6 :: a7 :: some (.long x) :: tl) (.long x :: st)) : V E l Y Q q cs pc (a0 :: a1 :: a2 :: a3 :: a4 :: a5 :: a6 :: a7 :: some (.long x) :: tl) st :=
  fun p e s m args below meth c C H locs lc hl hR hS => lv_lload C.1 C.2.1 d (hl.2.2 8 (.long x) rfl) (k p e s m args below meth c C H locs lc hl hR hS)
theorem V_ist8 {a0 a1 a2 a3 a4 a5 a6 a7 : Option Value} {o : Option Value} {tl : List (Option Value)} {x : Int32} (d : decode Y.2.1 pc = .ok (.istore 8, 2)) (ha : xnl a7 = true := by rfl) (hn : 8 < Y.2.2.1 := by decide) (k : V E l Y Q q cs (pc + 2) (a0 :: a1 :: a2 :: a3 :: a4 :: a5 :: a6 :: a7 :: some (.int x) :: tl) st) : V E l Y Q q cs pc (a0 :: a1 :: a2 :: a3 :: a4 :: a5 :: a6 :: a7 :: o :: tl) (.int x :: st) := VS_i d hn ((xSt1.cons a0 ((xSt1.cons a1 ((xSt1.cons a2 ((xSt1.cons a3 ((xSt1.cons a4 ((xSt1.cons a5 ((xSt1.cons a6 (xSt1_1 ha))))))))))))))) k
theorem V_ast8 {a0 a1 a2 a3 a4 a5 a6 a7 : Option Value} {o : Option Value} {tl : List (Option Value)} {x : Nat} (d : decode Y.2.1 pc = .ok (.astore 8, 2)) (ha : xnl a7 = true := by rfl) (hn : 8 < Y.2.2.1 := by decide) (k : V E l Y Q q cs (pc + 2) (a0 :: a1 :: a2 :: a3 :: a4 :: a5 :: a6 :: a7 :: some (.ref x) :: tl) st) : V E l Y Q q cs pc (a0 :: a1 :: a2 :: a3 :: a4 :: a5 :: a6 :: a7 :: o :: tl) (.ref x :: st) := VS_a d hn ((xSt1.cons a0 ((xSt1.cons a1 ((xSt1.cons a2 ((xSt1.cons a3 ((xSt1.cons a4 ((xSt1.cons a5 ((xSt1.cons a6 (xSt1_1 ha))))))))))))))) k
theorem V_inc8 {a0 a1 a2 a3 a4 a5 a6 a7 : Option Value} {tl : List (Option Value)} {n : Int} {x v : Int32} (d : decode Y.2.1 pc = .ok (.iinc 8 n, 3)) (ha : xnl a7 = true := by rfl) (hv : x + Int32.ofInt n = v) (k : V E l Y Q q cs (pc + 3) (a0 :: a1 :: a2 :: a3 :: a4 :: a5 :: a6 :: a7 :: some (.int v) :: tl) st) : V E l Y Q q cs pc (a0 :: a1 :: a2 :: a3 :: a4 :: a5 :: a6 :: a7 :: some (.int x) :: tl) st := VS_inc d rfl hv ((xSt1.cons a0 ((xSt1.cons a1 ((xSt1.cons a2 ((xSt1.cons a3 ((xSt1.cons a4 ((xSt1.cons a5 ((xSt1.cons a6 (xSt1_1 ha))))))))))))))) k
theorem V_lst8 {a0 a1 a2 a3 a4 a5 a6 a7 : Option Value} {o o2 : Option Value} {tl : List (Option Value)} {x : Int64} (d : decode Y.2.1 pc = .ok (.lstore 8, 2)) (ha : xnl a7 = true := by rfl) (hn : 8 + 1 < Y.2.2.1 := by decide) (k : V E l Y Q q cs (pc + 2) (a0 :: a1 :: a2 :: a3 :: a4 :: a5 :: a6 :: a7 :: some (.long x) :: none :: tl) st) : V E l Y Q q cs pc (a0 :: a1 :: a2 :: a3 :: a4 :: a5 :: a6 :: a7 :: o :: o2 :: tl) (.long x :: st) := VS_l d hn ((xSt2.cons a0 ((xSt2.cons a1 ((xSt2.cons a2 ((xSt2.cons a3 ((xSt2.cons a4 ((xSt2.cons a5 ((xSt2.cons a6 (xSt2_1 ha))))))))))))))) k
theorem V_ild9 {a0 a1 a2 a3 a4 a5 a6 a7 a8 : Option Value} {tl : List (Option Value)} {x : Int32} (d : decode Y.2.1 pc = .ok (.iload 9, 2)) (k : V E l Y Q q cs (pc + 2) (a0 :: a1 :: a2 :: a3 :: a4 :: a5 :: a6 :: a7 :: a8 :: some (.int x) :: tl) (.int x :: st)) : V E l Y Q q cs pc (a0 :: a1 :: a2 :: a3 :: a4 :: a5 :: a6 :: a7 :: a8 :: some (.int x) :: tl) st :=
  fun p e s m args below meth c C H locs lc hl hR hS => lv_iload C.1 C.2.1 d (hl.2.2 9 (.int x) rfl) (k p e s m args below meth c C H locs lc hl hR hS)
theorem V_ald9 {a0 a1 a2 a3 a4 a5 a6 a7 a8 : Option Value} {tl : List (Option Value)} {x : Nat} (d : decode Y.2.1 pc = .ok (.aload 9, 2)) (k : V E l Y Q q cs (pc + 2) (a0 :: a1 :: a2 :: a3 :: a4 :: a5 :: a6 :: a7 :: a8 :: some (.ref x) :: tl) (.ref x :: st)) : V E l Y Q q cs pc (a0 :: a1 :: a2 :: a3 :: a4 :: a5 :: a6 :: a7 :: a8 :: some (.ref x) :: tl) st :=
  fun p e s m args below meth c C H locs lc hl hR hS => lv_aload C.1 C.2.1 d (hl.2.2 9 (.ref x) rfl) (k p e s m args below meth c C H locs lc hl hR hS)
theorem V_lld9 {a0 a1 a2 a3 a4 a5 a6 a7 a8 : Option Value} {tl : List (Option Value)} {x : Int64} (d : decode Y.2.1 pc = .ok (.lload 9, 2)) (k : V E l Y Q q cs (pc + 2) (a0 :: a1 :: a2 :: a3 :: a4 :: a5 :: a6 :: a7 :: a8 :: some (.long x) :: tl) (.long x :: st)) : V E l Y Q q cs pc (a0 :: a1 :: a2 :: a3 :: a4 :: a5 :: a6 :: a7 :: a8 :: some (.long x) :: tl) st :=
  fun p e s m args below meth c C H locs lc hl hR hS => lv_lload C.1 C.2.1 d (hl.2.2 9 (.long x) rfl) (k p e s m args below meth c C H locs lc hl hR hS)
theorem V_ist9 {a0 a1 a2 a3 a4 a5 a6 a7 a8 : Option Value} {o : Option Value} {tl : List (Option Value)} {x : Int32} (d : decode Y.2.1 pc = .ok (.istore 9, 2)) (ha : xnl a8 = true := by rfl) (hn : 9 < Y.2.2.1 := by decide) (k : V E l Y Q q cs (pc + 2) (a0 :: a1 :: a2 :: a3 :: a4 :: a5 :: a6 :: a7 :: a8 :: some (.int x) :: tl) st) : V E l Y Q q cs pc (a0 :: a1 :: a2 :: a3 :: a4 :: a5 :: a6 :: a7 :: a8 :: o :: tl) (.int x :: st) := VS_i d hn ((xSt1.cons a0 ((xSt1.cons a1 ((xSt1.cons a2 ((xSt1.cons a3 ((xSt1.cons a4 ((xSt1.cons a5 ((xSt1.cons a6 ((xSt1.cons a7 (xSt1_1 ha))))))))))))))))) k
theorem V_ast9 {a0 a1 a2 a3 a4 a5 a6 a7 a8 : Option Value} {o : Option Value} {tl : List (Option Value)} {x : Nat} (d : decode Y.2.1 pc = .ok (.astore 9, 2)) (ha : xnl a8 = true := by rfl) (hn : 9 < Y.2.2.1 := by decide) (k : V E l Y Q q cs (pc + 2) (a0 :: a1 :: a2 :: a3 :: a4 :: a5 :: a6 :: a7 :: a8 :: some (.ref x) :: tl) st) : V E l Y Q q cs pc (a0 :: a1 :: a2 :: a3 :: a4 :: a5 :: a6 :: a7 :: a8 :: o :: tl) (.ref x :: st) := VS_a d hn ((xSt1.cons a0 ((xSt1.cons a1 ((xSt1.cons a2 ((xSt1.cons a3 ((xSt1.cons a4 ((xSt1.cons a5 ((xSt1.cons a6 ((xSt1.cons a7 (xSt1_1 ha))))))))))))))))) k
theorem V_inc9 {a0 a1 a2 a3 a4 a5 a6 a7 a8 : Option Value} {tl : List (Option Value)} {n : Int} {x v : Int32} (d : decode Y.2.1 pc = .ok (.iinc 9 n, 3)) (ha : xnl a8 = true := by rfl) (hv : x + Int32.ofInt n = v) (k : V E l Y Q q cs (pc + 3) (a0 :: a1 :: a2 :: a3 :: a4 :: a5 :: a6 :: a7 :: a8 :: some (.int v) :: tl) st) : V E l Y Q q cs pc (a0 :: a1 :: a2 :: a3 :: a4 :: a5 :: a6 :: a7 :: a8 :: some (.int x) :: tl) st := VS_inc d rfl hv ((xSt1.cons a0 ((xSt1.cons a1 ((xSt1.cons a2 ((xSt1.cons a3 ((xSt1.cons a4 ((xSt1.cons a5 ((xSt1.cons a6 ((xSt1.cons a7 (xSt1_1 ha))))))))))))))))) k
theorem V_lst9 {a0 a1 a2 a3 a4 a5 a6 a7 a8 : Option Value} {o o2 : Option Value} {tl : List (Option Value)} {x : Int64} (d : decode Y.2.1 pc = .ok (.lstore 9, 2)) (ha : xnl a8 = true := by rfl) (hn : 9 + 1 < Y.2.2.1 := by decide) (k : V E l Y Q q cs (pc + 2) (a0 :: a1 :: a2 :: a3 :: a4 :: a5 :: a6 :: a7 :: a8 :: some (.long x) :: none :: tl) st) : V E l Y Q q cs pc (a0 :: a1 :: a2 :: a3 :: a4 :: a5 :: a6 :: a7 :: a8 :: o :: o2 :: tl) (.long x :: st) := VS_l d hn ((xSt2.cons a0 ((xSt2.cons a1 ((xSt2.cons a2 ((xSt2.cons a3 ((xSt2.cons a4 ((xSt2.cons a5 ((xSt2.cons a6 ((xSt2.cons a7 (xSt2_1 ha))))))))))))))))) k
theorem V_ild10 {a0 a1 a2 a3 a4 a5 a6 a7 a8 a9 : Option Value} {tl : List (Option Value)} {x : Int32} (d : decode Y.2.1 pc = .ok (.iload 10, 2)) (k : V E l Y Q q cs (pc + 2) (a0 :: a1 :: a2 :: a3 :: a4 :: a5 :: a6 :: a7 :: a8 :: a9 :: some (.int x) :: tl) (.int x :: st)) : V E l Y Q q cs pc (a0 :: a1 :: a2 :: a3 :: a4 :: a5 :: a6 :: a7 :: a8 :: a9 :: some (.int x) :: tl) st :=
  fun p e s m args below meth c C H locs lc hl hR hS => lv_iload C.1 C.2.1 d (hl.2.2 10 (.int x) rfl) (k p e s m args below meth c C H locs lc hl hR hS)
theorem V_ald10 {a0 a1 a2 a3 a4 a5 a6 a7 a8 a9 : Option Value} {tl : List (Option Value)} {x : Nat} (d : decode Y.2.1 pc = .ok (.aload 10, 2)) (k : V E l Y Q q cs (pc + 2) (a0 :: a1 :: a2 :: a3 :: a4 :: a5 :: a6 :: a7 :: a8 :: a9 :: some (.ref x) :: tl) (.ref x :: st)) : V E l Y Q q cs pc (a0 :: a1 :: a2 :: a3 :: a4 :: a5 :: a6 :: a7 :: a8 :: a9 :: some (.ref x) :: tl) st :=
  fun p e s m args below meth c C H locs lc hl hR hS => lv_aload C.1 C.2.1 d (hl.2.2 10 (.ref x) rfl) (k p e s m args below meth c C H locs lc hl hR hS)
theorem V_lld10 {a0 a1 a2 a3 a4 a5 a6 a7 a8 a9 : Option Value} {tl : List (Option Value)} {x : Int64} (d : decode Y.2.1 pc = .ok (.lload 10, 2)) (k : V E l Y Q q cs (pc + 2) (a0 :: a1 :: a2 :: a3 :: a4 :: a5 :: a6 :: a7 :: a8 :: a9 :: some (.long x) :: tl) (.long x :: st)) : V E l Y Q q cs pc (a0 :: a1 :: a2 :: a3 :: a4 :: a5 :: a6 :: a7 :: a8 :: a9 :: some (.long x) :: tl) st :=
  fun p e s m args below meth c C H locs lc hl hR hS => lv_lload C.1 C.2.1 d (hl.2.2 10 (.long x) rfl) (k p e s m args below meth c C H locs lc hl hR hS)
theorem V_ist10 {a0 a1 a2 a3 a4 a5 a6 a7 a8 a9 : Option Value} {o : Option Value} {tl : List (Option Value)} {x : Int32} (d : decode Y.2.1 pc = .ok (.istore 10, 2)) (ha : xnl a9 = true := by rfl) (hn : 10 < Y.2.2.1 := by decide) (k : V E l Y Q q cs (pc + 2) (a0 :: a1 :: a2 :: a3 :: a4 :: a5 :: a6 :: a7 :: a8 :: a9 :: some (.int x) :: tl) st) : V E l Y Q q cs pc (a0 :: a1 :: a2 :: a3 :: a4 :: a5 :: a6 :: a7 :: a8 :: a9 :: o :: tl) (.int x :: st) := VS_i d hn ((xSt1.cons a0 ((xSt1.cons a1 ((xSt1.cons a2 ((xSt1.cons a3 ((xSt1.cons a4 ((xSt1.cons a5 ((xSt1.cons a6 ((xSt1.cons a7 ((xSt1.cons a8 (xSt1_1 ha))))))))))))))))))) k
theorem V_ast10 {a0 a1 a2 a3 a4 a5 a6 a7 a8 a9 : Option Value} {o : Option Value} {tl : List (Option Value)} {x : Nat} (d : decode Y.2.1 pc = .ok (.astore 10, 2)) (ha : xnl a9 = true := by rfl) (hn : 10 < Y.2.2.1 := by decide) (k : V E l Y Q q cs (pc + 2) (a0 :: a1 :: a2 :: a3 :: a4 :: a5 :: a6 :: a7 :: a8 :: a9 :: some (.ref x) :: tl) st) : V E l Y Q q cs pc (a0 :: a1 :: a2 :: a3 :: a4 :: a5 :: a6 :: a7 :: a8 :: a9 :: o :: tl) (.ref x :: st) := VS_a d hn ((xSt1.cons a0 ((xSt1.cons a1 ((xSt1.cons a2 ((xSt1.cons a3 ((xSt1.cons a4 ((xSt1.cons a5 ((xSt1.cons a6 ((xSt1.cons a7 ((xSt1.cons a8 (xSt1_1 ha))))))))))))))))))) k
theorem V_inc10 {a0 a1 a2 a3 a4 a5 a6 a7 a8 a9 : Option Value} {tl : List (Option Value)} {n : Int} {x v : Int32} (d : decode Y.2.1 pc = .ok (.iinc 10 n, 3)) (ha : xnl a9 = true := by rfl) (hv : x + Int32.ofInt n = v) (k : V E l Y Q q cs (pc + 3) (a0 :: a1 :: a2 :: a3 :: a4 :: a5 :: a6 :: a7 :: a8 :: a9 :: some (.int v) :: tl) st) : V E l Y Q q cs pc (a0 :: a1 :: a2 :: a3 :: a4 :: a5 :: a6 :: a7 :: a8 :: a9 :: some (.int x) :: tl) st := VS_inc d rfl hv ((xSt1.cons a0 ((xSt1.cons a1 ((xSt1.cons a2 ((xSt1.cons a3 ((xSt1.cons a4 ((xSt1.cons a5 ((xSt1.cons a6 ((xSt1.cons a7 ((xSt1.cons a8 (xSt1_1 ha))))))))))))))))))) k
theorem V_lst10 {a0 a1 a2 a3 a4 a5 a6 a7 a8 a9 : Option Value} {o o2 : Option Value} {tl : List (Option Value)} {x : Int64} (d : decode Y.2.1 pc = .ok (.lstore 10, 2)) (ha : xnl a9 = true := by rfl) (hn : 10 + 1 < Y.2.2.1 := by decide) (k : V E l Y Q q cs (pc + 2) (a0 :: a1 :: a2 :: a3 :: a4 :: a5 :: a6 :: a7 :: a8 :: a9 :: some (.long x) :: none :: tl) st) : V E l Y Q q cs pc (a0 :: a1 :: a2 :: a3 :: a4 :: a5 :: a6 :: a7 :: a8 :: a9 :: o :: o2 :: tl) (.long x :: st) := VS_l d hn ((xSt2.cons a0 ((xSt2.cons a1 ((xSt2.cons a2 ((xSt2.cons a3 ((xSt2.cons a4 ((xSt2.cons a5 ((xSt2.cons a6 ((xSt2.cons a7 ((xSt2.cons a8 (xSt2_1 ha))))))))))))))))))) k
end VL

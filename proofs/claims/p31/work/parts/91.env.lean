/-! ===== the start: what the Statement gives ===== -/
def gvn : List Cond := flatC (Jvm.Cond.and given_1 narrow_1)
section P80
variable {args : Array Value} {s : State} {N : Nat}
/-- a static row of ints, told by its length and its numbers -/
theorem xStat {tm : Term} {f : Nat → Int32} (hN : N < 2 ^ 31) (harr : (Cond.arrayOf tm .int).before args s = true) (hlen : (Term.length tm).eval args s none [] s = some (.int (Int32.ofNat N))) (hel : ∀ j : Nat, j < N → (Term.elem tm (.int (Int32.ofNat j))).eval args s none [] s = some (.int (f j))) :
    ∃ t : Nat, tm.eval args s none [] s = some (.ref t) ∧ va_X t N f s s.heap ∧ t < s.heap.size := by
  obtain ⟨t, ht, cell, hc, hof, hkn, h1, h2, h3, -⟩ := va_Tof (f := fun j => .int (f j)) (A := fun _ => False) hN harr hlen hel (fun _ _ q => q)
  refine ⟨t, ht, ⟨cell, hc, hof, hkn, ?_, h3⟩, (Array.getElem?_eq_some_iff.mp hc).1⟩
  obtain ⟨t', cell', ht', hat, hv⟩ := Term.length_spec hlen
  cases ht.symm.trans ht'
  obtain ⟨hc', -⟩ := State.arrayAt?_spec hat
  cases hc.symm.trans hc'
  have h31 : cell.slots.size < 2 ^ 31 := by
    refine Decidable.byContradiction fun q => ?_
    simp [Term.eval, ht, hat, q] at hlen
  exact (nI_eq h31 hN).mp h2
theorem xArr {ty : FieldType} (h : (Cond.arrayClass ty).before args s = true) : ∃ c, s.vm.findClass ("[" ++ ty.toString) = some c ∧ ArrOfT s c ty := by
  obtain ⟨c, k, comp, h1, h2, h3⟩ := Cond.arrayClass_spec h
  exact ⟨c, h1, fun n z => ⟨fun k h => (by cases h), k, h2, comp, h3⟩⟩
theorem xArrO {C : String} (h : (Cond.arrayOver (.object C)).before args s = true) : ∃ c, ArrOfT s c (.object C) ∧ va_RA s c (.object C) := by
  obtain ⟨comp, c, k, h1, -, h2, h3, h4⟩ := Cond.arrayOver_spec h
  exact ⟨c, fun n z => ⟨fun k h => (by cases h), k, h2, comp, h3⟩, k, comp, h2, h3, h1, h4⟩
theorem xStrOf {own tx : String} {k : Nat} (h1 : (Cond.stringRef own k tx).before args s = true) (h2 : (Cond.exactly (Term.string own k) "java/lang/String").before args s = true) : ∃ a, vk_R own k tx a s := by
  obtain ⟨a, c, cell, k, h3, -⟩ := Cond.exactly_spec h2
  exact ⟨a, vk_R.of h1 h3⟩
end P80
theorem xStr28 {args : Array Value} {s : State} (hts : ∀ w ∈ lw_tbl, w.before args s = true) (hfl : ∀ w ∈ gvn, w.before args s = true) : ∀ q ∈ xStrs, ∃ a, vk_R q.1 q.2.1 q.2.2 a s := by
  unfold xStrs
  refine List.forall_mem_cons.mpr ⟨xStrOf (hts _ (List.mem_of_getElem? (i := 762) (by decide +kernel))) (hfl (Cond.exactly (Term.string "ImpactPlate" 59) "java/lang/String") (by decide +kernel)), ?_⟩
  refine List.forall_mem_cons.mpr ⟨xStrOf (hts _ (List.mem_of_getElem? (i := 767) (by decide +kernel))) (hfl (Cond.exactly (Term.string "ImpactPlate" 70) "java/lang/String") (by decide +kernel)), ?_⟩
  refine List.forall_mem_cons.mpr ⟨xStrOf (hts _ (List.mem_of_getElem? (i := 302) (by decide +kernel))) (hfl (Cond.exactly (Term.string "ImpactPlate" 84) "java/lang/String") (by decide +kernel)), ?_⟩
  refine List.forall_mem_cons.mpr ⟨xStrOf (hts _ (List.mem_of_getElem? (i := 492) (by decide +kernel))) (hfl (Cond.exactly (Term.string "ImpactPlate" 148) "java/lang/String") (by decide +kernel)), ?_⟩
  refine List.forall_mem_cons.mpr ⟨xStrOf (hts _ (List.mem_of_getElem? (i := 507) (by decide +kernel))) (hfl (Cond.exactly (Term.string "ImpactPlate" 150) "java/lang/String") (by decide +kernel)), ?_⟩
  refine List.forall_mem_cons.mpr ⟨xStrOf (hts _ (List.mem_of_getElem? (i := 515) (by decide +kernel))) (hfl (Cond.exactly (Term.string "ImpactPlate" 157) "java/lang/String") (by decide +kernel)), ?_⟩
  refine List.forall_mem_cons.mpr ⟨xStrOf (hts _ (List.mem_of_getElem? (i := 524) (by decide +kernel))) (hfl (Cond.exactly (Term.string "ImpactPlate" 169) "java/lang/String") (by decide +kernel)), ?_⟩
  refine List.forall_mem_cons.mpr ⟨xStrOf (hts _ (List.mem_of_getElem? (i := 532) (by decide +kernel))) (hfl (Cond.exactly (Term.string "ImpactPlate" 171) "java/lang/String") (by decide +kernel)), ?_⟩
  refine List.forall_mem_cons.mpr ⟨xStrOf (hts _ (List.mem_of_getElem? (i := 540) (by decide +kernel))) (hfl (Cond.exactly (Term.string "ImpactPlate" 185) "java/lang/String") (by decide +kernel)), ?_⟩
  refine List.forall_mem_cons.mpr ⟨xStrOf (hts _ (List.mem_of_getElem? (i := 556) (by decide +kernel))) (hfl (Cond.exactly (Term.string "ImpactPlate" 190) "java/lang/String") (by decide +kernel)), ?_⟩
  refine List.forall_mem_cons.mpr ⟨xStrOf (hts _ (List.mem_of_getElem? (i := 569) (by decide +kernel))) (hfl (Cond.exactly (Term.string "ImpactPlate" 195) "java/lang/String") (by decide +kernel)), ?_⟩
  refine List.forall_mem_cons.mpr ⟨xStrOf (hts _ (List.mem_of_getElem? (i := 573) (by decide +kernel))) (hfl (Cond.exactly (Term.string "ImpactPlate" 201) "java/lang/String") (by decide +kernel)), ?_⟩
  refine List.forall_mem_cons.mpr ⟨xStrOf (hts _ (List.mem_of_getElem? (i := 589) (by decide +kernel))) (hfl (Cond.exactly (Term.string "ImpactPlate" 207) "java/lang/String") (by decide +kernel)), ?_⟩
  refine List.forall_mem_cons.mpr ⟨xStrOf (hts _ (List.mem_of_getElem? (i := 614) (by decide +kernel))) (hfl (Cond.exactly (Term.string "ImpactPlate" 220) "java/lang/String") (by decide +kernel)), ?_⟩
  refine List.forall_mem_cons.mpr ⟨xStrOf (hts _ (List.mem_of_getElem? (i := 627) (by decide +kernel))) (hfl (Cond.exactly (Term.string "ImpactPlate" 228) "java/lang/String") (by decide +kernel)), ?_⟩
  refine List.forall_mem_cons.mpr ⟨xStrOf (hts _ (List.mem_of_getElem? (i := 640) (by decide +kernel))) (hfl (Cond.exactly (Term.string "ImpactPlate" 236) "java/lang/String") (by decide +kernel)), ?_⟩
  refine List.forall_mem_cons.mpr ⟨xStrOf (hts _ (List.mem_of_getElem? (i := 648) (by decide +kernel))) (hfl (Cond.exactly (Term.string "ImpactPlate" 238) "java/lang/String") (by decide +kernel)), ?_⟩
  refine List.forall_mem_cons.mpr ⟨xStrOf (hts _ (List.mem_of_getElem? (i := 649) (by decide +kernel))) (hfl (Cond.exactly (Term.string "ImpactPlate" 240) "java/lang/String") (by decide +kernel)), ?_⟩
  refine List.forall_mem_cons.mpr ⟨xStrOf (hts _ (List.mem_of_getElem? (i := 654) (by decide +kernel))) (hfl (Cond.exactly (Term.string "ImpactPlate" 245) "java/lang/String") (by decide +kernel)), ?_⟩
  refine List.forall_mem_cons.mpr ⟨xStrOf (hts _ (List.mem_of_getElem? (i := 799) (by decide +kernel))) (hfl (Cond.exactly (Term.string "ImpactPlate" 253) "java/lang/String") (by decide +kernel)), ?_⟩
  refine List.forall_mem_cons.mpr ⟨xStrOf (hts _ (List.mem_of_getElem? (i := 671) (by decide +kernel))) (hfl (Cond.exactly (Term.string "ImpactPlate" 261) "java/lang/String") (by decide +kernel)), ?_⟩
  refine List.forall_mem_cons.mpr ⟨xStrOf (hts _ (List.mem_of_getElem? (i := 679) (by decide +kernel))) (hfl (Cond.exactly (Term.string "ImpactPlate" 263) "java/lang/String") (by decide +kernel)), ?_⟩
  refine List.forall_mem_cons.mpr ⟨xStrOf (hts _ (List.mem_of_getElem? (i := 687) (by decide +kernel))) (hfl (Cond.exactly (Term.string "ImpactPlate" 265) "java/lang/String") (by decide +kernel)), ?_⟩
  refine List.forall_mem_cons.mpr ⟨xStrOf (hts _ (List.mem_of_getElem? (i := 718) (by decide +kernel))) (hfl (Cond.exactly (Term.string "ImpactPlate" 290) "java/lang/String") (by decide +kernel)), ?_⟩
  refine List.forall_mem_cons.mpr ⟨xStrOf (hts _ (List.mem_of_getElem? (i := 723) (by decide +kernel))) (hfl (Cond.exactly (Term.string "ImpactPlate" 296) "java/lang/String") (by decide +kernel)), ?_⟩
  refine List.forall_mem_cons.mpr ⟨xStrOf (hts _ (List.mem_of_getElem? (i := 748) (by decide +kernel))) (hfl (Cond.exactly (Term.string "ImpactPlate" 304) "java/lang/String") (by decide +kernel)), ?_⟩
  refine List.forall_mem_cons.mpr ⟨xStrOf (hts _ (List.mem_of_getElem? (i := 446) (by decide +kernel))) (hfl (Cond.exactly (Term.string "ImpactPlate" 313) "java/lang/String") (by decide +kernel)), ?_⟩
  refine List.forall_mem_cons.mpr ⟨xStrOf (hts _ (List.mem_of_getElem? (i := 461) (by decide +kernel))) (hfl (Cond.exactly (Term.string "ImpactPlate" 315) "java/lang/String") (by decide +kernel)), ?_⟩
  exact fun _ h => absurd h List.not_mem_nil
theorem xSt_xLeast {args : Array Value} {s : State} (hfl : ∀ w ∈ gvn, w.before args s = true) : ∃ t : Nat, (Term.static "ImpactPlate" "LEAST_SETTING" "[I").eval args s none [] s = some (.ref t) ∧ va_X t 5 xLeast s s.heap ∧ t < s.heap.size := by
  refine xStat (by decide) (hfl (Cond.arrayOf (Term.static "ImpactPlate" "LEAST_SETTING" "[I") .int) (by decide +kernel)) (va_eqt (z := 5) (hfl (Cond.eq (Term.length (Term.static "ImpactPlate" "LEAST_SETTING" "[I")) (Term.int 5)) (by decide +kernel))) (fun j hj => ?_)
  match j, hj with
  | 0, _ => exact va_eqt (z := 0) (hfl (Cond.eq (Term.elem (Term.static "ImpactPlate" "LEAST_SETTING" "[I") (Term.int 0)) (Term.int 0)) (by decide +kernel))
  | 1, _ => exact va_eqt (z := 0) (hfl (Cond.eq (Term.elem (Term.static "ImpactPlate" "LEAST_SETTING" "[I") (Term.int 1)) (Term.int 0)) (by decide +kernel))
  | 2, _ => exact va_eqt (z := 1) (hfl (Cond.eq (Term.elem (Term.static "ImpactPlate" "LEAST_SETTING" "[I") (Term.int 2)) (Term.int 1)) (by decide +kernel))
  | 3, _ => exact va_eqt (z := 1) (hfl (Cond.eq (Term.elem (Term.static "ImpactPlate" "LEAST_SETTING" "[I") (Term.int 3)) (Term.int 1)) (by decide +kernel))
  | 4, _ => exact va_eqt (z := 500) (hfl (Cond.eq (Term.elem (Term.static "ImpactPlate" "LEAST_SETTING" "[I") (Term.int 4)) (Term.int 500)) (by decide +kernel))
  | j + 5, hj => exact absurd hj (by omega)
theorem xSt_xGreatest {args : Array Value} {s : State} (hfl : ∀ w ∈ gvn, w.before args s = true) : ∃ t : Nat, (Term.static "ImpactPlate" "GREATEST_SETTING" "[I").eval args s none [] s = some (.ref t) ∧ va_X t 5 xGreatest s s.heap ∧ t < s.heap.size := by
  refine xStat (by decide) (hfl (Cond.arrayOf (Term.static "ImpactPlate" "GREATEST_SETTING" "[I") .int) (by decide +kernel)) (va_eqt (z := 5) (hfl (Cond.eq (Term.length (Term.static "ImpactPlate" "GREATEST_SETTING" "[I")) (Term.int 5)) (by decide +kernel))) (fun j hj => ?_)
  match j, hj with
  | 0, _ => exact va_eqt (z := 40) (hfl (Cond.eq (Term.elem (Term.static "ImpactPlate" "GREATEST_SETTING" "[I") (Term.int 0)) (Term.int 40)) (by decide +kernel))
  | 1, _ => exact va_eqt (z := 20) (hfl (Cond.eq (Term.elem (Term.static "ImpactPlate" "GREATEST_SETTING" "[I") (Term.int 1)) (Term.int 20)) (by decide +kernel))
  | 2, _ => exact va_eqt (z := 9) (hfl (Cond.eq (Term.elem (Term.static "ImpactPlate" "GREATEST_SETTING" "[I") (Term.int 2)) (Term.int 9)) (by decide +kernel))
  | 3, _ => exact va_eqt (z := 200) (hfl (Cond.eq (Term.elem (Term.static "ImpactPlate" "GREATEST_SETTING" "[I") (Term.int 3)) (Term.int 200)) (by decide +kernel))
  | 4, _ => exact va_eqt (z := 5000) (hfl (Cond.eq (Term.elem (Term.static "ImpactPlate" "GREATEST_SETTING" "[I") (Term.int 4)) (Term.int 5000)) (by decide +kernel))
  | j + 5, hj => exact absurd hj (by omega)
theorem xEnvOf {s : State} {b L : Nat} {xs : Nat → Int32} (hts : ∀ w ∈ lw_tbl, w.before #[Value.ref b] s = true) (hfl : ∀ w ∈ gvn, w.before #[Value.ref b] s = true) (hX : va_X b L xs s s.heap) (hbl : b < s.heap.size) :
    ∃ E : xEnv, xB E = s.heap.size ∧ xAd E 2 = b ∧ E.2.2.2.1 = L ∧ xKn E s := by
  have hts' : ∀ w ∈ xTT, w.before #[Value.ref b] s = true := fun w hw => hts w (List.mem_filter.mp hw).1
  obtain ⟨c0, i0, k0⟩ := u_known (C := RX0) (T := TX0) (N := 6) (n := 6) hts' mw_X0 (hts _ (List.mem_of_getElem? (i := 116) (by decide +kernel)))
  obtain ⟨c1, i1, k1⟩ := u_known (C := RX1) (T := TX1) (N := 3) (n := 3) hts' mw_X1 (hts _ (List.mem_of_getElem? (i := 122) (by decide +kernel)))
  obtain ⟨c2, i2, k2⟩ := u_known (C := RX2) (T := TX2) (N := 12) (n := 12) hts' mw_X2 (hts _ (List.mem_of_getElem? (i := 61) (by decide +kernel)))
  obtain ⟨c3, i3, k3⟩ := u_known (C := RX3) (T := TX3) (N := 2) (n := 2) hts' mw_X3 (hts _ (List.mem_of_getElem? (i := 55) (by decide +kernel)))
  obtain ⟨c4, i4, k4⟩ := u_known (C := RX4) (T := TX4) (N := 2) (n := 2) hts' mw_X4 (hts _ (List.mem_of_getElem? (i := 40) (by decide +kernel)))
  obtain ⟨c5, i5, k5⟩ := u_known (C := RX5) (T := TX5) (N := 11) (n := 11) hts' mw_X5 (hts _ (List.mem_of_getElem? (i := 32) (by decide +kernel)))
  obtain ⟨a10, f10, o10⟩ := xArr (ty := .int) (hts _ (List.mem_of_getElem? (i := 53) (by decide +kernel)))
  obtain ⟨a13, o13, f13⟩ := xArrO (C := RX3) (hts _ (List.mem_of_getElem? (i := 174) (by decide +kernel)))
  obtain ⟨t0, e0, x0, l0⟩ := xSt_xLeast hfl
  obtain ⟨t1, e1, x1, l1⟩ := xSt_xGreatest hfl
  have hA : ∀ a : Nat, a < s.heap.size → ¬ s.heap.size ≤ a := fun a h => Nat.not_le.mpr h
  refine ⟨((fun k => if k = 0 then c0 else if k = 1 then c1 else if k = 2 then c2 else if k = 3 then c3 else if k = 4 then c4 else c5, fun k => if k = 0 then i0 else if k = 1 then i1 else if k = 2 then i2 else if k = 3 then i3 else if k = 4 then i4 else i5), fun t => if t = 10 then a10 else a13, (s.heap.size, t0, t1, b), (L, xs)), rfl, rfl, rfl, ⟨fun k q hq => ?_, fun k q hq => ?_⟩, Nat.le_refl _, ⟨x0, l0⟩, ⟨x1, l1⟩, ⟨hX, hbl⟩,
    va_Zref (hts _ (List.mem_of_getElem? (i := 254) (by decide +kernel))) (hts _ (List.mem_of_getElem? (i := 18) (by decide +kernel))) e0 hA, va_Zref (hts _ (List.mem_of_getElem? (i := 256) (by decide +kernel))) (hts _ (List.mem_of_getElem? (i := 18) (by decide +kernel))) e1 hA,
    vx_Zqof (hts _ (List.mem_of_getElem? (i := 288) (by decide +kernel))) (hts _ (List.mem_of_getElem? (i := 25) (by decide +kernel))) (hfl (Cond.isRef (Term.static "java/lang/Throwable" "UNASSIGNED_STACK" "[Ljava/lang/StackTraceElement;")) (by decide +kernel)) hA,
    vx_Zqof (hts _ (List.mem_of_getElem? (i := 290) (by decide +kernel))) (hts _ (List.mem_of_getElem? (i := 25) (by decide +kernel))) (hfl (Cond.isRef (Term.static "java/lang/Throwable" "SUPPRESSED_SENTINEL" "Ljava/util/List;")) (by decide +kernel)) hA,
    xStr28 hts hfl, va_AO.of (hts _ (List.mem_of_getElem? (i := 174) (by decide +kernel))),
    va_Nc.of (hfl (Cond.not (Cond.castable "java/lang/IllegalStateException" "java/lang/IllegalArgumentException")) (by decide +kernel)),
    va_Nc.of (hfl (Cond.not (Cond.castable "java/lang/IllegalArgumentException" "java/lang/IndexOutOfBoundsException")) (by decide +kernel)),
    va_Nc.of (hfl (Cond.not (Cond.castable "java/lang/IllegalStateException" "java/lang/IndexOutOfBoundsException")) (by decide +kernel))⟩
  · match k, hq with
    | 0, hq => cases hq; exact k0
    | 1, hq => cases hq; exact k1
    | 2, hq => cases hq; exact k2
    | 3, hq => cases hq; exact k3
    | 4, hq => cases hq; exact k4
    | 5, hq => cases hq; exact k5
    | k + 6, hq => simp [vwCl] at hq
  · match k, hq with
    | 0, hq => cases hq; exact ⟨o10, f10⟩
    | 1, hq => cases hq; exact ⟨o13, f13⟩
    | k + 2, hq => simp [xTyl] at hq

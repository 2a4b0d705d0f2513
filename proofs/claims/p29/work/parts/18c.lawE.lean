theorem z_ACROSS {s : State} {args : Array Value} (hts0 : ∀ w ∈ lw_tbl, w.before args s = true) (hs : ∀ w ∈ flatC (Jvm.Cond.and given_1 narrow_1), w.before args s = true) : ∃ t, nZa "ACROSS" t 8 tX (lwA s) s s.heap := by
  have hA : ∀ a : Nat, a < s.heap.size → ¬ lwA s a := fun a h => Nat.not_le.mpr h
  have hel : ∀ j : Nat, j < 8 → (Term.elem (.static "NeedleGrid" "ACROSS" "[I") (.int (Int32.ofNat j))).eval args s none [] s = some (.int (tX j)) := fun j hj => by
    match j, hj with
    | 0, _ => exact va_eqt (hs (.eq (.elem (.static "NeedleGrid" "ACROSS" "[I") (.int 0)) (.int (1))) (by decide +kernel))
    | 1, _ => exact va_eqt (hs (.eq (.elem (.static "NeedleGrid" "ACROSS" "[I") (.int 1)) (.int (1))) (by decide +kernel))
    | 2, _ => exact va_eqt (hs (.eq (.elem (.static "NeedleGrid" "ACROSS" "[I") (.int 2)) (.int (0))) (by decide +kernel))
    | 3, _ => exact va_eqt (hs (.eq (.elem (.static "NeedleGrid" "ACROSS" "[I") (.int 3)) (.int (-1))) (by decide +kernel))
    | 4, _ => exact va_eqt (hs (.eq (.elem (.static "NeedleGrid" "ACROSS" "[I") (.int 4)) (.int (-1))) (by decide +kernel))
    | 5, _ => exact va_eqt (hs (.eq (.elem (.static "NeedleGrid" "ACROSS" "[I") (.int 5)) (.int (-1))) (by decide +kernel))
    | 6, _ => exact va_eqt (hs (.eq (.elem (.static "NeedleGrid" "ACROSS" "[I") (.int 6)) (.int (0))) (by decide +kernel))
    | 7, _ => exact va_eqt (hs (.eq (.elem (.static "NeedleGrid" "ACROSS" "[I") (.int 7)) (.int (1))) (by decide +kernel))
    | j + 8, z => exact absurd z (by omega)
  obtain ⟨t, ht, hT⟩ := va_Tof (tm := (.static "NeedleGrid" "ACROSS" "[I")) (ty := .int) (N := 8) (f := fun j => .int (tX j)) (A := lwA s) (by decide) (hs (.arrayOf (.static "NeedleGrid" "ACROSS" "[I") .int) (by decide +kernel)) (va_eqt (hs (.eq (.length (.static "NeedleGrid" "ACROSS" "[I")) (.int 8)) (by decide +kernel))) hel hA
  exact ⟨t, va_Zof (hts0 _ (tbl 34 (by decide +kernel))) (hts0 _ (tbl 1 (by decide +kernel))) ht hA, hT⟩
theorem z_DOWN {s : State} {args : Array Value} (hts0 : ∀ w ∈ lw_tbl, w.before args s = true) (hs : ∀ w ∈ flatC (Jvm.Cond.and given_1 narrow_1), w.before args s = true) : ∃ t, nZa "DOWN" t 8 tY (lwA s) s s.heap := by
  have hA : ∀ a : Nat, a < s.heap.size → ¬ lwA s a := fun a h => Nat.not_le.mpr h
  have hel : ∀ j : Nat, j < 8 → (Term.elem (.static "NeedleGrid" "DOWN" "[I") (.int (Int32.ofNat j))).eval args s none [] s = some (.int (tY j)) := fun j hj => by
    match j, hj with
    | 0, _ => exact va_eqt (hs (.eq (.elem (.static "NeedleGrid" "DOWN" "[I") (.int 0)) (.int (0))) (by decide +kernel))
    | 1, _ => exact va_eqt (hs (.eq (.elem (.static "NeedleGrid" "DOWN" "[I") (.int 1)) (.int (1))) (by decide +kernel))
    | 2, _ => exact va_eqt (hs (.eq (.elem (.static "NeedleGrid" "DOWN" "[I") (.int 2)) (.int (1))) (by decide +kernel))
    | 3, _ => exact va_eqt (hs (.eq (.elem (.static "NeedleGrid" "DOWN" "[I") (.int 3)) (.int (1))) (by decide +kernel))
    | 4, _ => exact va_eqt (hs (.eq (.elem (.static "NeedleGrid" "DOWN" "[I") (.int 4)) (.int (0))) (by decide +kernel))
    | 5, _ => exact va_eqt (hs (.eq (.elem (.static "NeedleGrid" "DOWN" "[I") (.int 5)) (.int (-1))) (by decide +kernel))
    | 6, _ => exact va_eqt (hs (.eq (.elem (.static "NeedleGrid" "DOWN" "[I") (.int 6)) (.int (-1))) (by decide +kernel))
    | 7, _ => exact va_eqt (hs (.eq (.elem (.static "NeedleGrid" "DOWN" "[I") (.int 7)) (.int (-1))) (by decide +kernel))
    | j + 8, z => exact absurd z (by omega)
  obtain ⟨t, ht, hT⟩ := va_Tof (tm := (.static "NeedleGrid" "DOWN" "[I")) (ty := .int) (N := 8) (f := fun j => .int (tY j)) (A := lwA s) (by decide) (hs (.arrayOf (.static "NeedleGrid" "DOWN" "[I") .int) (by decide +kernel)) (va_eqt (hs (.eq (.length (.static "NeedleGrid" "DOWN" "[I")) (.int 8)) (by decide +kernel))) hel hA
  exact ⟨t, va_Zof (hts0 _ (tbl 39 (by decide +kernel))) (hts0 _ (tbl 1 (by decide +kernel))) ht hA, hT⟩
theorem z_MOST_OF_SETTING {s : State} {args : Array Value} (hts0 : ∀ w ∈ lw_tbl, w.before args s = true) (hs : ∀ w ∈ flatC (Jvm.Cond.and given_1 narrow_1), w.before args s = true) : ∃ t, nZa "MOST_OF_SETTING" t 3 tM (lwA s) s s.heap := by
  have hA : ∀ a : Nat, a < s.heap.size → ¬ lwA s a := fun a h => Nat.not_le.mpr h
  have hel : ∀ j : Nat, j < 3 → (Term.elem (.static "NeedleGrid" "MOST_OF_SETTING" "[I") (.int (Int32.ofNat j))).eval args s none [] s = some (.int (tM j)) := fun j hj => by
    match j, hj with
    | 0, _ => exact va_eqt (hs (.eq (.elem (.static "NeedleGrid" "MOST_OF_SETTING" "[I") (.int 0)) (.int (200))) (by decide +kernel))
    | 1, _ => exact va_eqt (hs (.eq (.elem (.static "NeedleGrid" "MOST_OF_SETTING" "[I") (.int 1)) (.int (20))) (by decide +kernel))
    | 2, _ => exact va_eqt (hs (.eq (.elem (.static "NeedleGrid" "MOST_OF_SETTING" "[I") (.int 2)) (.int (50))) (by decide +kernel))
    | j + 3, z => exact absurd z (by omega)
  obtain ⟨t, ht, hT⟩ := va_Tof (tm := (.static "NeedleGrid" "MOST_OF_SETTING" "[I")) (ty := .int) (N := 3) (f := fun j => .int (tM j)) (A := lwA s) (by decide) (hs (.arrayOf (.static "NeedleGrid" "MOST_OF_SETTING" "[I") .int) (by decide +kernel)) (va_eqt (hs (.eq (.length (.static "NeedleGrid" "MOST_OF_SETTING" "[I")) (.int 3)) (by decide +kernel))) hel hA
  exact ⟨t, va_Zof (hts0 _ (tbl 482 (by decide +kernel))) (hts0 _ (tbl 1 (by decide +kernel))) ht hA, hT⟩

/-- the script as a table -/
theorem scr_T {E : NE} {s : State} {b L : Nat} {xs : Nat → Int32} (hX : va_X b L xs s s.heap) (hbl : b < s.heap.size) (h3 : E.2.2 3 = b) (h4 : E.2.2 4 = L) (hx : ∀ j, scr E j = xs j) : va_T .int (E.2.2 3) (E.2.2 4) (fun j => .int (scr E j)) (lwA s) s s.heap := by
  obtain ⟨cell, e1, e2, e3, e4, e5⟩ := hX
  rw [h3, h4]
  refine ⟨cell, e1, e2, e3, by omega, by rw [e4], fun j hj => (e5 j hj).trans (congrArg (fun z => some (Value.int z)) (hx j).symm), Nat.not_le.mpr hbl⟩
theorem law_E {s : State} {args : Array Value} {b L : Nat} {xs : Nat → Int32} (hX : va_X b L xs s s.heap) (hbl : b < s.heap.size) (hts0 : ∀ w ∈ lw_tbl, w.before args s = true) (hgv : (Jvm.Cond.and given_1 narrow_1).before args s = true) : ∃ E : NE, va_K E.1 vwCl (nTys E) s ∧ nZ E (lwA s) s s.heap ∧ va_AO RX2 s ∧ E.2.2 3 = b ∧ E.2.2 4 = L := by
  have hs : ∀ w ∈ flatC (Jvm.Cond.and given_1 narrow_1), w.before args s = true := flat_of_before _ hgv
  have hA : ∀ a : Nat, a < s.heap.size → ¬ lwA s a := fun a h => Nat.not_le.mpr h
  obtain ⟨c0, i0, k0⟩ := u_known (C := RX0) (T := TX0) (N := 6) (n := 6) hts0 inX0 (hts0 _ (tbl 145 (by decide +kernel)))
  obtain ⟨c1, i1, k1⟩ := u_known (C := RX1) (T := TX1) (N := 3) (n := 3) hts0 inX1 (hts0 _ (tbl 139 (by decide +kernel)))
  obtain ⟨c2, i2, k2⟩ := u_known (C := RX2) (T := TX2) (N := 13) (n := 13) hts0 inX2 (hts0 _ (tbl 21 (by decide +kernel)))
  obtain ⟨c3, i3, k3⟩ := u_known (C := RX3) (T := TX3) (N := 3) (n := 3) hts0 inX3 (hts0 _ (tbl 119 (by decide +kernel)))
  obtain ⟨c4, i4, k4⟩ := u_known (C := RX4) (T := TX4) (N := 4) (n := 4) hts0 inX4 (hts0 _ (tbl 13 (by decide +kernel)))
  obtain ⟨a0, n0, r0⟩ := arrT (t := .int) (hts0 _ (tbl 116 (by decide +kernel)))
  obtain ⟨a1, n1, r1⟩ := arrT (t := .boolean) (hts0 _ (tbl 117 (by decide +kernel)))
  obtain ⟨a2, r2, n2⟩ := arrO (C := RX2) (hts0 _ (tbl 125 (by decide +kernel)))
  obtain ⟨t0, z0⟩ := z_ACROSS hts0 hs
  obtain ⟨t1, z1⟩ := z_DOWN hts0 hs
  obtain ⟨t2, z2⟩ := z_MOST_OF_SETTING hts0 hs
  have q1 : vx_Zq Bundle.tN "UNASSIGNED_STACK" Bundle.steD (lwA s) s s.heap := vx_Zqof (hts0 _ (tbl 219 (by decide +kernel))) (hts0 _ (tbl 6 (by decide +kernel))) (hs (.isRef (.static "java/lang/Throwable" "UNASSIGNED_STACK" "[Ljava/lang/StackTraceElement;")) (by decide +kernel)) hA
  have q2 : vx_Zq Bundle.tN "SUPPRESSED_SENTINEL" Bundle.listD (lwA s) s s.heap := vx_Zqof (hts0 _ (tbl 221 (by decide +kernel))) (hts0 _ (tbl 6 (by decide +kernel))) (hs (.isRef (.static "java/lang/Throwable" "SUPPRESSED_SENTINEL" "Ljava/util/List;")) (by decide +kernel)) hA
  have e1 : ∀ q ∈ nNF, (Cond.fieldLinkNest q.1 q.2.1 q.2.2.1 q.2.2.2.1 q.2.2.2.2 "NeedleGrid") ∈ tables_1 := by decide +kernel
  have e2 : ∀ q ∈ nNM, (Cond.methodLinkNest q.1 q.2.1 q.2.2 "NeedleGrid") ∈ tables_1 := by decide +kernel
  have e3 : ∀ q ∈ nNS, (Cond.stringRef "NeedleGrid" q.1 q.2) ∈ tables_1 := by decide +kernel
  have e4 : ∀ q ∈ nNS, (Cond.exactly (.string "NeedleGrid" q.1) "java/lang/String") ∈ flatC (Jvm.Cond.and given_1 narrow_1) := by decide +kernel
  have hX9 : nNX s := ⟨⟨va_Nw.of rfl (hts0 _ (tbl 295 (by decide +kernel))), va_Nw.of rfl (hts0 _ (tbl 194 (by decide +kernel))), va_Nw.of rfl (hts0 _ (tbl 437 (by decide +kernel)))⟩, va_Nw.of rfl (hts0 _ (tbl 196 (by decide +kernel))), va_Nw.of rfl (hts0 _ (tbl 198 (by decide +kernel))), va_Nw.of rfl (hts0 _ (tbl 200 (by decide +kernel)))⟩
  refine ⟨((fun c => match c with | 0 => c0 | 1 => c1 | 2 => c2 | 3 => c3 | _ => c4, fun c => match c with | 0 => i0 | 1 => i1 | 2 => i2 | 3 => i3 | _ => i4), fun k => match k with | 0 => a0 | 1 => a1 | _ => a2, fun k => match k with | 0 => t0 | 1 => t1 | 2 => t2 | 3 => b | 4 => L | k + 5 => (xs k).toUInt32.toNat), ⟨fun c q hq => ?_, fun k q hq => ?_⟩, ⟨⟨z0, z1, z2⟩, ⟨q1, q2, scr_T hX hbl rfl rfl (fun j => ?_)⟩, fun q hq => va_Nw.of rfl (hts0 _ (List.mem_append_right _ (e1 q hq))), fun q hq => va_Nw.of rfl (hts0 _ (List.mem_append_right _ (e2 q hq))), fun q hq => ?_, hX9⟩, va_AO.of (hts0 _ (tbl 125 (by decide +kernel))), rfl, rfl⟩
  · match c, hq with
    | 0, hq => cases hq; exact k0
    | 1, hq => cases hq; exact k1
    | 2, hq => cases hq; exact k2
    | 3, hq => cases hq; exact k3
    | 4, hq => cases hq; exact k4
    | c + 5, hq => exact absurd (List.getElem?_eq_some_iff.mp hq).1 (by simp)
  · match k, hq with
    | 0, hq => cases hq; exact ⟨r0, n0⟩
    | 1, hq => cases hq; exact ⟨r1, n1⟩
    | 2, hq => cases hq; exact ⟨r2, n2⟩
    | k + 3, hq => exact absurd (List.getElem?_eq_some_iff.mp hq).1 (by simp [nTys])
  · unfold scr
    rw [Nat.add_comm]
    exact scr_bits (xs j)
  · obtain ⟨sa, _, _, _, h1, -⟩ := Cond.exactly_spec (hs _ (e4 q hq))
    exact ⟨sa, vk_R.of (hts0 _ (List.mem_append_right _ (e3 q hq))) h1⟩

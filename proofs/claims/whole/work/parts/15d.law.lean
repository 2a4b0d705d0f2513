theorem tbl {w : Cond} (i : Nat) (h : tables_1[i]? = some w) : w ∈ lw_tbl := List.mem_append_right _ (List.mem_of_getElem? (i := i) h)
theorem okN_0 : okN N0 := by
  have a6 : ∀ c, c < 36 → N0 (6 + c) = 6 := fun c hc => by
    unfold N0
    rw [if_neg (by omega), if_neg (by omega), if_neg (by omega), if_pos ⟨by omega, by omega⟩]
  have a0 : ∀ c, 78 ≤ c → N0 c = 0 := fun c hc => by
    unfold N0
    rw [if_neg (by omega), if_neg (by omega), if_neg (by omega), if_neg (by omega), if_neg (by omega)]
  refine ⟨⟨fun c hc => ⟨6, a6 c hc⟩, fun c hc => ⟨0, a0 _ (by omega)⟩, ⟨0, by decide +kernel⟩⟩, fun c hc => Or.inl (a0 _ (by omega)), fun c hc => ⟨0, by omega, a0 _ (by omega)⟩, by decide +kernel⟩
/-! where things lie -/
def lof : Nat → Nat := fun h =>
  if h = 0 then 0 else if h = 12 then 24 else if h = 16 then 23 else if h = 32 then 91 else if h = 33 then 92 else if h = 48 then 93
  else if h = 208 then 94 else if h = 209 then 95 else if h = 210 then 96 else if h = 211 then 97 else if h = 213 then 98 else if h = 218 then 99 else if h = 220 then 100 else if h = 240 then 101
  else (if h < 80 then 1 else if h < 96 then 12 else 25 + 11 * (h / 16 - 6)) + (if h % 16 < 7 then h % 16 else h % 16 - 3)
def lad (B : Nat) : Nat → Nat := fun h => B + lof h
theorem lad_e {B h a : Nat} (v : Nat) (e : lof h = v) (ha : a = B + v) : lad B h = a := by unfold lad; omega
abbrev lofG (b v : Nat) : Prop := lof (b + 1 + 0) = v ∧ lof (b + 1 + 1) = v + 1 ∧ lof (b + 1 + 2) = v + 2 ∧ lof (b + 1 + 3) = v + 3 ∧ lof (b + 1 + 4) = v + 4 ∧ lof (b + 1 + 5) = v + 5 ∧ lof (b + 1 + 9) = v + 6 ∧ lof (b + 1 + 10) = v + 7 ∧ lof (b + 1 + 11) = v + 8 ∧ lof (b + 1 + 12) = v + 9
theorem lad_g {B b a : Nat} (v : Nat) (h : lofG b v) (ha : a = B + v) : gArr (lad B) b a := by
  obtain ⟨h0, h1, h2, h3, h4, h5, h9, h10, h11, h12⟩ := h
  exact ⟨lad_e _ h0 ha, lad_e _ h1 (by omega), lad_e _ h2 (by omega), lad_e _ h3 (by omega), lad_e _ h4 (by omega), lad_e _ h5 (by omega), lad_e _ h9 (by omega), lad_e _ h10 (by omega), lad_e _ h11 (by omega), lad_e _ h12 (by omega)⟩
theorem lad_r : ∀ i : Fin 6, lof (96 + 16 * i.val) = 25 + 11 * i.val ∧ lofG (96 + 16 * i.val) (26 + 11 * i.val) := by decide +kernel
theorem lad_N {B sz : Nat} (h : sz = B + 1) : nAdS (lad B) sz := by
  refine ⟨⟨lad_e 1 (by decide +kernel) (by omega), lad_g 2 (by decide +kernel) (by omega)⟩, ⟨lad_e 12 (by decide +kernel) (by omega), lad_g 13 (by decide +kernel) (by omega)⟩, lad_e 23 (by decide +kernel) (by omega), lad_e 24 (by decide +kernel) (by omega), fun i hi => ?_, lad_e 91 (by decide +kernel) (by omega), lad_e 92 (by decide +kernel) (by omega), lad_e 93 (by decide +kernel) (by omega)⟩
  obtain ⟨h1, h2⟩ := lad_r ⟨i, hi⟩
  exact ⟨lad_e _ h1 (by show _ = B + (25 + 11 * i); omega), lad_g _ h2 (by show _ = B + (26 + 11 * i); omega)⟩
theorem lad_M {B sz : Nat} (h : sz = B + 95) : mAdS (lad B) sz :=
  ⟨lad_e 95 (by decide +kernel) (by omega), lad_e 96 (by decide +kernel) (by omega), lad_e 97 (by decide +kernel) (by omega), lad_e 98 (by decide +kernel) (by omega), lad_e 99 (by decide +kernel) (by omega), lad_e 100 (by decide +kernel) (by omega)⟩
section NLA
variable {p : Program} {l : Launch} {e : Env} {R : Room} {s : State} {m : MethodId} {args : Array Value} {below : List Frame} {meth : Method} {c : Code} {H : Heap} {locs : List Loc} {cells slots : Nat} {Q : State → Prop}
variable {cc : ByteArray} {pc nL : Nat} {ls : Array Slot} {rest stk : List Value} {A : Nat → Prop} {E : NE} {ad : Nat → Nat} {st : NW} {H0 : Heap}
/-- the array of one long -/
theorem nNewL (hx : p.tables.exec = Jvm.exec) (hb : c.code = cc) (harr : (Cond.arrayClass .long).before args s = true) (hK : va_K E.1 vwCl (nTys E) s) (hP : nP E ad st H) (hD : nD A ad st) (hS : va_S A H0 H locs) (hA : ∀ q, H0.size ≤ q → A q) (ha : ad 240 = H.size) (hcells : cells + 1 ≤ R.cells) (hslots : slots + 1 ≤ R.slots) (hdg : decode cc pc = .ok (.newarray .long, 2))
    (kk : ∀ (st1 : NW) (H1 : Heap), st1 240 = some (outE E 0) → one 240 st st1 → nP E ad st1 H1 → nD A ad st1 → va_S A H0 H1 locs → W p l e R s m args below meth c H1 locs (cells + 1) (slots + 1) Q (F0 m (pc + 2) ls (.ref (ad 240) :: rest))) : W p l e R s m args below meth c H locs cells slots Q (F0 m pc ls (.int 1 :: rest)) := by
  refine va_newaK (atype := .long) (N := 1) hx hb harr rfl hdg rfl (by decide) (by decide) (by decide) hcells hslots rfl fun H1 cA e1 z1 o1 hAr hNm => ?_
  have hc : cA = E.2.1 3 := Option.some.inj (hNm.symm.trans (hK.2 3 (E.2.1 3, .long) rfl).2)
  subst hc
  have := kk _ H1 su_s (fun j hj => su_n hj) (hP.grow o1 (by rw [ha]; exact e1)) (hD.grow hP ha (hA _ (by rw [ha]; exact hS.1))) ⟨Nat.le_trans hS.1 (by omega), fun x h1 h2 => (o1 x (Nat.lt_of_lt_of_le h1 hS.1)).trans (hS.2.1 x h1 h2), hS.2.2⟩
  rw [ha] at this
  exact this
end NLA
theorem arrT {s : State} {args : Array Value} {t : FieldType} (h : (Cond.arrayClass t).before args s = true) : ∃ c : ClassId, s.vm.findClass ("[" ++ t.toString) = some c ∧ ArrOfT s c t := by
  obtain ⟨c, kA, comp, h1, h2, h3⟩ := Cond.arrayClass_spec h
  exact ⟨c, h1, fun n z => ⟨fun k h => (by cases h), kA, h2, comp, h3⟩⟩
theorem arrO {s : State} {args : Array Value} {C : String} (h : (Cond.arrayOver (.object C)).before args s = true) : ∃ c : ClassId, ArrOfT s c (.object C) ∧ va_RA s c (.object C) := by
  obtain ⟨comp, c, k, h1, h2, h3, h4, h5⟩ := Cond.arrayOver_spec h
  exact ⟨c, fun n z => ⟨fun k h => (by cases h), k, h3, comp, h4⟩, k, comp, h3, h4, h1, h5⟩

theorem z_ACROSS {s : State} {args : Array Value} (hts0 : ∀ w ∈ lw_tbl, w.before args s = true) (hs : ∀ w ∈ flatC (Jvm.Cond.and given_1 narrow_1), w.before args s = true) : ∃ t, nZa "ACROSS" t 8 tX (lwA s) s s.heap := by
  have hA : ∀ a : Nat, a < s.heap.size → ¬ lwA s a := fun a h => Nat.not_le.mpr h
  have hel : ∀ j : Nat, j < 8 → (Term.elem (.static "NeedleGrid" "ACROSS" "[I") (.int (Int32.ofNat j))).eval args s none [] s = some (.int (tX j)) := fun j hj => by
    match j, hj with
    | 0, _ => exact va_eqt (hs (.eq (.elem (.static "NeedleGrid" "ACROSS" "[I") (.int 0)) (.int (1))) (by decide +kernel))
    | 1, _ => exact va_eqt (hs (.eq (.elem (.static "NeedleGrid" "ACROSS" "[I") (.int 1)) (.int (1))) (by decide +kernel))
    | 2, _ => exact va_eqt (hs (.eq (.elem (.static "NeedleGrid" "ACROSS" "[I") (.int 2)) (.int (0))) (by decide +kernel))
    | 3, _ => exact va_eqt (hs (.eq (.elem (.static "NeedleGrid" "ACROSS" "[I") (.int 3)) (.int (-1))) (by decide +kernel))
    | 4, _ => exact va_eqt (hs (.eq (.elem (.static "NeedleGrid" "ACROSS" "[I") (.int 4)) (.int (-1))) (by decide +kernel))
    | 5, _ => exact va_eqt (hs (.eq (.elem (.static "NeedleGrid" "ACROSS" "[I") (.int 5)) (.int (-1))) (by decide +kernel))
    | 6, _ => exact va_eqt (hs (.eq (.elem (.static "NeedleGrid" "ACROSS" "[I") (.int 6)) (.int (0))) (by decide +kernel))
    | 7, _ => exact va_eqt (hs (.eq (.elem (.static "NeedleGrid" "ACROSS" "[I") (.int 7)) (.int (1))) (by decide +kernel))
    | j + 8, z => exact absurd z (by omega)
  obtain ⟨t, ht, hT⟩ := va_Tof (tm := (.static "NeedleGrid" "ACROSS" "[I")) (ty := .int) (N := 8) (f := fun j => .int (tX j)) (A := lwA s) (by decide) (hs (.arrayOf (.static "NeedleGrid" "ACROSS" "[I") .int) (by decide +kernel)) (va_eqt (hs (.eq (.length (.static "NeedleGrid" "ACROSS" "[I")) (.int 8)) (by decide +kernel))) hel hA
  exact ⟨t, va_Zof (hts0 _ (tbl 36 (by decide +kernel))) (hts0 _ (tbl 1 (by decide +kernel))) ht hA, hT⟩
theorem z_DOWN {s : State} {args : Array Value} (hts0 : ∀ w ∈ lw_tbl, w.before args s = true) (hs : ∀ w ∈ flatC (Jvm.Cond.and given_1 narrow_1), w.before args s = true) : ∃ t, nZa "DOWN" t 8 tY (lwA s) s s.heap := by
  have hA : ∀ a : Nat, a < s.heap.size → ¬ lwA s a := fun a h => Nat.not_le.mpr h
  have hel : ∀ j : Nat, j < 8 → (Term.elem (.static "NeedleGrid" "DOWN" "[I") (.int (Int32.ofNat j))).eval args s none [] s = some (.int (tY j)) := fun j hj => by
    match j, hj with
    | 0, _ => exact va_eqt (hs (.eq (.elem (.static "NeedleGrid" "DOWN" "[I") (.int 0)) (.int (0))) (by decide +kernel))
    | 1, _ => exact va_eqt (hs (.eq (.elem (.static "NeedleGrid" "DOWN" "[I") (.int 1)) (.int (1))) (by decide +kernel))
    | 2, _ => exact va_eqt (hs (.eq (.elem (.static "NeedleGrid" "DOWN" "[I") (.int 2)) (.int (1))) (by decide +kernel))
    | 3, _ => exact va_eqt (hs (.eq (.elem (.static "NeedleGrid" "DOWN" "[I") (.int 3)) (.int (1))) (by decide +kernel))
    | 4, _ => exact va_eqt (hs (.eq (.elem (.static "NeedleGrid" "DOWN" "[I") (.int 4)) (.int (0))) (by decide +kernel))
    | 5, _ => exact va_eqt (hs (.eq (.elem (.static "NeedleGrid" "DOWN" "[I") (.int 5)) (.int (-1))) (by decide +kernel))
    | 6, _ => exact va_eqt (hs (.eq (.elem (.static "NeedleGrid" "DOWN" "[I") (.int 6)) (.int (-1))) (by decide +kernel))
    | 7, _ => exact va_eqt (hs (.eq (.elem (.static "NeedleGrid" "DOWN" "[I") (.int 7)) (.int (-1))) (by decide +kernel))
    | j + 8, z => exact absurd z (by omega)
  obtain ⟨t, ht, hT⟩ := va_Tof (tm := (.static "NeedleGrid" "DOWN" "[I")) (ty := .int) (N := 8) (f := fun j => .int (tY j)) (A := lwA s) (by decide) (hs (.arrayOf (.static "NeedleGrid" "DOWN" "[I") .int) (by decide +kernel)) (va_eqt (hs (.eq (.length (.static "NeedleGrid" "DOWN" "[I")) (.int 8)) (by decide +kernel))) hel hA
  exact ⟨t, va_Zof (hts0 _ (tbl 41 (by decide +kernel))) (hts0 _ (tbl 1 (by decide +kernel))) ht hA, hT⟩
theorem z_MOST_OF_SETTING {s : State} {args : Array Value} (hts0 : ∀ w ∈ lw_tbl, w.before args s = true) (hs : ∀ w ∈ flatC (Jvm.Cond.and given_1 narrow_1), w.before args s = true) : ∃ t, nZa "MOST_OF_SETTING" t 3 tM (lwA s) s s.heap := by
  have hA : ∀ a : Nat, a < s.heap.size → ¬ lwA s a := fun a h => Nat.not_le.mpr h
  have hel : ∀ j : Nat, j < 3 → (Term.elem (.static "NeedleGrid" "MOST_OF_SETTING" "[I") (.int (Int32.ofNat j))).eval args s none [] s = some (.int (tM j)) := fun j hj => by
    match j, hj with
    | 0, _ => exact va_eqt (hs (.eq (.elem (.static "NeedleGrid" "MOST_OF_SETTING" "[I") (.int 0)) (.int (200))) (by decide +kernel))
    | 1, _ => exact va_eqt (hs (.eq (.elem (.static "NeedleGrid" "MOST_OF_SETTING" "[I") (.int 1)) (.int (20))) (by decide +kernel))
    | 2, _ => exact va_eqt (hs (.eq (.elem (.static "NeedleGrid" "MOST_OF_SETTING" "[I") (.int 2)) (.int (50))) (by decide +kernel))
    | j + 3, z => exact absurd z (by omega)
  obtain ⟨t, ht, hT⟩ := va_Tof (tm := (.static "NeedleGrid" "MOST_OF_SETTING" "[I")) (ty := .int) (N := 3) (f := fun j => .int (tM j)) (A := lwA s) (by decide) (hs (.arrayOf (.static "NeedleGrid" "MOST_OF_SETTING" "[I") .int) (by decide +kernel)) (va_eqt (hs (.eq (.length (.static "NeedleGrid" "MOST_OF_SETTING" "[I")) (.int 3)) (by decide +kernel))) hel hA
  exact ⟨t, va_Zof (hts0 _ (tbl 572 (by decide +kernel))) (hts0 _ (tbl 1 (by decide +kernel))) ht hA, hT⟩
theorem law_E {s : State} {args : Array Value} (hts0 : ∀ w ∈ lw_tbl, w.before args s = true) (hgv : (Jvm.Cond.and given_1 narrow_1).before args s = true) : ∃ E : NE, va_K E.1 vwCl (nTys E) s ∧ nZ E (lwA s) s s.heap ∧ nNC s ∧ va_AO RX2 s := by
  have hs : ∀ w ∈ flatC (Jvm.Cond.and given_1 narrow_1), w.before args s = true := flat_of_before _ hgv
  have hA : ∀ a : Nat, a < s.heap.size → ¬ lwA s a := fun a h => Nat.not_le.mpr h
  obtain ⟨c0, i0, k0⟩ := u_known (C := RX0) (T := TX0) (N := 6) (n := 6) hts0 inX0 (hts0 _ (tbl 147 (by decide +kernel)))
  obtain ⟨c1, i1, k1⟩ := u_known (C := RX1) (T := TX1) (N := 3) (n := 3) hts0 inX1 (hts0 _ (tbl 141 (by decide +kernel)))
  obtain ⟨c2, i2, k2⟩ := u_known (C := RX2) (T := TX2) (N := 13) (n := 13) hts0 inX2 (hts0 _ (tbl 23 (by decide +kernel)))
  obtain ⟨c3, i3, k3⟩ := u_known (C := RX3) (T := TX3) (N := 3) (n := 3) hts0 inX3 (hts0 _ (tbl 121 (by decide +kernel)))
  obtain ⟨c4, i4, k4⟩ := u_known (C := RX4) (T := TX4) (N := 4) (n := 4) hts0 inX4 (hts0 _ (tbl 15 (by decide +kernel)))
  obtain ⟨c5, i5, k5⟩ := u_known (C := RX5) (T := TX5) (N := 14) (n := 14) hts0 inX5 (hts0 _ (tbl 672 (by decide +kernel)))
  obtain ⟨a0, n0, r0⟩ := arrT (t := .int) (hts0 _ (tbl 118 (by decide +kernel)))
  obtain ⟨a1, n1, r1⟩ := arrT (t := .boolean) (hts0 _ (tbl 119 (by decide +kernel)))
  obtain ⟨a2, r2, n2⟩ := arrO (C := RX2) (hts0 _ (tbl 127 (by decide +kernel)))
  obtain ⟨a3, n3, r3⟩ := arrT (t := .long) (hts0 _ (tbl 967 (by decide +kernel)))
  obtain ⟨t0, z0⟩ := z_ACROSS hts0 hs
  obtain ⟨t1, z1⟩ := z_DOWN hts0 hs
  obtain ⟨t2, z2⟩ := z_MOST_OF_SETTING hts0 hs
  have q1 : vx_Zq Bundle.tN "UNASSIGNED_STACK" Bundle.steD (lwA s) s s.heap := vx_Zqof (hts0 _ (tbl 326 (by decide +kernel))) (hts0 _ (tbl 7 (by decide +kernel))) (hs (.isRef (.static "java/lang/Throwable" "UNASSIGNED_STACK" "[Ljava/lang/StackTraceElement;")) (by decide +kernel)) hA
  have q2 : vx_Zq Bundle.tN "SUPPRESSED_SENTINEL" Bundle.listD (lwA s) s s.heap := vx_Zqof (hts0 _ (tbl 328 (by decide +kernel))) (hts0 _ (tbl 7 (by decide +kernel))) (hs (.isRef (.static "java/lang/Throwable" "SUPPRESSED_SENTINEL" "Ljava/util/List;")) (by decide +kernel)) hA
  have e1 : ∀ q ∈ nNF, (Cond.fieldLinkNest q.1 q.2.1 q.2.2.1 q.2.2.2.1 q.2.2.2.2 "NeedleGrid") ∈ tables_1 := by decide +kernel
  have e2 : ∀ q ∈ nNM, (Cond.methodLinkNest q.1 q.2.1 q.2.2 "NeedleGrid") ∈ tables_1 := by decide +kernel
  have e3 : ∀ q ∈ nNS, (Cond.stringRef "NeedleGrid" q.1 q.2) ∈ tables_1 := by decide +kernel
  have e4 : ∀ q ∈ nNS, (Cond.exactly (.string "NeedleGrid" q.1) "java/lang/String") ∈ flatC (Jvm.Cond.and given_1 narrow_1) := by decide +kernel
  have hX : nNX s := ⟨⟨va_Nw.of rfl (hts0 _ (tbl 380 (by decide +kernel))), va_Nw.of rfl (hts0 _ (tbl 301 (by decide +kernel))), va_Nw.of rfl (hts0 _ (tbl 525 (by decide +kernel)))⟩, va_Nw.of rfl (hts0 _ (tbl 303 (by decide +kernel))), va_Nw.of rfl (hts0 _ (tbl 305 (by decide +kernel))), va_Nw.of rfl (hts0 _ (tbl 307 (by decide +kernel)))⟩
  refine ⟨((fun c => match c with | 0 => c0 | 1 => c1 | 2 => c2 | 3 => c3 | 4 => c4 | _ => c5, fun c => match c with | 0 => i0 | 1 => i1 | 2 => i2 | 3 => i3 | 4 => i4 | _ => i5), fun k => match k with | 0 => a0 | 1 => a1 | 2 => a2 | _ => a3, fun k => match k with | 0 => t0 | 1 => t1 | _ => t2), ⟨fun c q hq => ?_, fun k q hq => ?_⟩, ⟨⟨z0, z1, z2⟩, ⟨q1, q2⟩, fun q hq => va_Nw.of rfl (hts0 _ (List.mem_append_right _ (e1 q hq))), fun q hq => va_Nw.of rfl (hts0 _ (List.mem_append_right _ (e2 q hq))), fun q hq => ?_, hX⟩, ⟨va_Nc.of (hs (.not (.castable IAE IOB)) (by decide +kernel)), va_Nc.of (hs (.not (.castable ISE IOB)) (by decide +kernel)), va_Nc.of (hs (.not (.castable ISE IAE)) (by decide +kernel))⟩, va_AO.of (hts0 _ (tbl 127 (by decide +kernel)))⟩
  · match c, hq with
    | 0, hq => cases hq; exact k0
    | 1, hq => cases hq; exact k1
    | 2, hq => cases hq; exact k2
    | 3, hq => cases hq; exact k3
    | 4, hq => cases hq; exact k4
    | 5, hq => cases hq; exact k5
    | c + 6, hq => exact absurd (List.getElem?_eq_some_iff.mp hq).1 (by simp)
  · match k, hq with
    | 0, hq => cases hq; exact ⟨r0, n0⟩
    | 1, hq => cases hq; exact ⟨r1, n1⟩
    | 2, hq => cases hq; exact ⟨r2, n2⟩
    | 3, hq => cases hq; exact ⟨r3, n3⟩
    | k + 4, hq => exact absurd (List.getElem?_eq_some_iff.mp hq).1 (by simp [nTys])
  · obtain ⟨sa, _, _, _, h1, -⟩ := Cond.exactly_spec (hs _ (e4 q hq))
    exact ⟨sa, vk_R.of (hts0 _ (List.mem_append_right _ (e3 q hq))) h1⟩

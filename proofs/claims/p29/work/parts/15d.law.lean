theorem tbl {w : Cond} (i : Nat) (h : tables_1[i]? = some w) : w ∈ lw_tbl := List.mem_append_right _ (List.mem_of_getElem? (i := i) h)
theorem okN_0 : okN N0 := by
  have a6 : ∀ c, c < 36 → N0 (6 + c) = 6 := fun c hc => by
    unfold N0
    rw [if_neg (by omega), if_neg (by omega), if_neg (by omega), if_pos ⟨by omega, by omega⟩]
  have a0 : ∀ c, 78 ≤ c → N0 c = 0 := fun c hc => by
    unfold N0
    rw [if_neg (by omega), if_neg (by omega), if_neg (by omega), if_neg (by omega), if_neg (by omega)]
  refine ⟨⟨fun c hc => ⟨6, a6 c hc⟩, fun c hc => ⟨0, a0 _ (by omega)⟩, ⟨0, by decide +kernel⟩⟩, fun c hc => Or.inl (a0 _ (by omega)), fun c hc => ⟨0, by omega, a0 _ (by omega)⟩, by decide +kernel⟩
/-! where things lie -/
def lof : Nat → Nat := fun h =>
  if h = 0 then 0 else if h = 12 then 24 else if h = 16 then 23 else if h = 32 then 91 else if h = 33 then 92 else if h = 48 then 93
  else if h = 208 then 94 else if h = 209 then 95 else if h = 210 then 96 else if h = 211 then 97 else if h = 213 then 98 else if h = 218 then 99 else if h = 220 then 100 else if h = 240 then 101
  else (if h < 80 then 1 else if h < 96 then 12 else 25 + 11 * (h / 16 - 6)) + (if h % 16 < 7 then h % 16 else h % 16 - 3)
def lad (B : Nat) : Nat → Nat := fun h => B + lof h
theorem lad_e {B h a : Nat} (v : Nat) (e : lof h = v) (ha : a = B + v) : lad B h = a := by unfold lad; omega
abbrev lofG (b v : Nat) : Prop := lof (b + 1 + 0) = v ∧ lof (b + 1 + 1) = v + 1 ∧ lof (b + 1 + 2) = v + 2 ∧ lof (b + 1 + 3) = v + 3 ∧ lof (b + 1 + 4) = v + 4 ∧ lof (b + 1 + 5) = v + 5 ∧ lof (b + 1 + 9) = v + 6 ∧ lof (b + 1 + 10) = v + 7 ∧ lof (b + 1 + 11) = v + 8 ∧ lof (b + 1 + 12) = v + 9
theorem lad_g {B b a : Nat} (v : Nat) (h : lofG b v) (ha : a = B + v) : gArr (lad B) b a := by
  obtain ⟨h0, h1, h2, h3, h4, h5, h9, h10, h11, h12⟩ := h
  exact ⟨lad_e _ h0 ha, lad_e _ h1 (by omega), lad_e _ h2 (by omega), lad_e _ h3 (by omega), lad_e _ h4 (by omega), lad_e _ h5 (by omega), lad_e _ h9 (by omega), lad_e _ h10 (by omega), lad_e _ h11 (by omega), lad_e _ h12 (by omega)⟩
theorem lad_r : ∀ i : Fin 6, lof (96 + 16 * i.val) = 25 + 11 * i.val ∧ lofG (96 + 16 * i.val) (26 + 11 * i.val) := by decide +kernel
theorem lad_N {B sz : Nat} (h : sz = B + 1) : nAdS (lad B) sz := by
  refine ⟨⟨lad_e 1 (by decide +kernel) (by omega), lad_g 2 (by decide +kernel) (by omega)⟩, ⟨lad_e 12 (by decide +kernel) (by omega), lad_g 13 (by decide +kernel) (by omega)⟩, lad_e 23 (by decide +kernel) (by omega), lad_e 24 (by decide +kernel) (by omega), fun i hi => ?_, lad_e 91 (by decide +kernel) (by omega), lad_e 92 (by decide +kernel) (by omega), lad_e 93 (by decide +kernel) (by omega)⟩
  obtain ⟨h1, h2⟩ := lad_r ⟨i, hi⟩
  exact ⟨lad_e _ h1 (by show _ = B + (25 + 11 * i); omega), lad_g _ h2 (by show _ = B + (26 + 11 * i); omega)⟩
section NLA
variable {p : Program} {l : Launch} {e : Env} {R : Room} {s : State} {m : MethodId} {args : Array Value} {below : List Frame} {meth : Method} {c : Code} {H : Heap} {locs : List Loc} {cells slots : Nat} {Q : State → Prop}
variable {cc : ByteArray} {pc nL : Nat} {ls : Array Slot} {rest stk : List Value} {A : Nat → Prop} {E : NE} {ad : Nat → Nat} {st : NW} {H0 : Heap}
end NLA
theorem arrT {s : State} {args : Array Value} {t : FieldType} (h : (Cond.arrayClass t).before args s = true) : ∃ c : ClassId, s.vm.findClass ("[" ++ t.toString) = some c ∧ ArrOfT s c t := by
  obtain ⟨c, kA, comp, h1, h2, h3⟩ := Cond.arrayClass_spec h
  exact ⟨c, h1, fun n z => ⟨fun k h => (by cases h), kA, h2, comp, h3⟩⟩
theorem arrO {s : State} {args : Array Value} {C : String} (h : (Cond.arrayOver (.object C)).before args s = true) : ∃ c : ClassId, ArrOfT s c (.object C) ∧ va_RA s c (.object C) := by
  obtain ⟨comp, c, k, h1, h2, h3, h4, h5⟩ := Cond.arrayOver_spec h
  exact ⟨c, fun n z => ⟨fun k h => (by cases h), k, h3, comp, h4⟩, k, comp, h3, h4, h1, h5⟩


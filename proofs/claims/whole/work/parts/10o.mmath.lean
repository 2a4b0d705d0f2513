theorem rd0_1 {C : Nat → Int32} : rdS r00 C 0 1 = nI (0 + 1) := rfl
theorem gud_0 {C : Nat → Int32} : gudTo C 0 := fun j hj => absurd hj (Nat.not_lt_zero _)
theorem tOK_0 {T : Nat → Int32} : tOK T 0 := fun j hj => absurd hj (Nat.not_lt_zero _)
/-- ';' read or not -/
theorem semi_y {C : Nat → Int32} {n q : Nat} (hC : okC C n) (h : q < n ∧ inI (C q) 59 59 ≠ 0) : C q = 59 := by
  obtain ⟨m, _, hm⟩ := hC q h.1
  have i := h.2
  rw [hm] at i ⊢
  exact (n59 m).mp i
theorem semi_n {C : Nat → Int32} {n q : Nat} (hC : okC C n) (h : q < n → inI (C q) 59 59 = 0) : q < n → ¬ C q = 59 := fun hq => by
  obtain ⟨m, _, hm⟩ := hC q hq
  have i := h hq
  rw [hm] at i ⊢
  exact fun z => (n59 m).mpr z i
/-- what isText answers and leaves -/
def txN (C : Nat → Int32) (n : Nat) (T : Nat → Int32) (k : Nat) : Prop := k ≤ 6 ∧ tOK T k ∧ ∀ M : Nat → Int32, layN (rdS r00 C n) (laysN r00 C M n) = layK T k M

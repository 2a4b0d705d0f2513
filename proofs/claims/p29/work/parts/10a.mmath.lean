def inI (v a b : Int32) : Int32 := if v < a then 0 else if b < v then 0 else 1
def barP (S : Nat → Int32) : Nat → Bool := fun k => !decide (S (150 + k) ≤ 0)
theorem barP_t {S : Nat → Int32} {k : Nat} (h : ¬ S (150 + k) ≤ 0) : barP S k = true := by unfold barP; rw [decide_eq_false h]; rfl
theorem barP_f {S : Nat → Int32} {k : Nat} (h : S (150 + k) ≤ 0) : barP S k = false := by unfold barP; rw [decide_eq_true h]; rfl


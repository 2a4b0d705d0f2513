/-- what lies outside the handles from lo to hi is as it was -/
def frX (lo hi : Nat) (st st1 : NW) : Prop := ∀ h : Nat, (h < lo ∨ hi ≤ h) → st1 h = st h
theorem frX.rf {lo hi : Nat} {st : NW} : frX lo hi st st := fun _ _ => rfl
theorem frX.tr1 {lo hi b : Nat} {st st1 st2 : NW} (h : frX lo hi st st1) (h2 : fr b st1 st2) (h3 : lo ≤ b) (h4 : b + 16 ≤ hi) : frX lo hi st st2 := fun k hk => (h2 k (by omega)).trans (h k hk)
def tx (C : Nat → Int32) (n : Nat) : Nat → Nat → Int32 := fun k => if k = 0 then C else if k = 1 then fun _ => nI n else fun _ => 0

/-- the needles, the bars' directions, the coil: directions; held; strengths; bars -/
def okM (S : Nat → Int32) : Prop := (∀ c, c < 36 → ∃ d : Fin 8, S (6 + c) = nI d.val) ∧ (∀ c, c < 36 → ∃ d : Fin 8, S (114 + c) = nI d.val) ∧ (∃ d : Fin 8, S 5 = nI d.val)
def okN (S : Nat → Int32) : Prop := okM S ∧ okH S ∧ (∀ c, c < 36 → ∃ q : Nat, q ≤ 50 ∧ S (150 + c) = nI q) ∧ cnI (barP S) 36 ≤ 6

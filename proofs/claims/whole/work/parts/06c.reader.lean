/-! what the reader held before it began doesn't matter -/
def eqR (R S : Nat → Int32) : Prop := R 0 = S 0 ∧ R 1 = S 1 ∧ (R 0 = 0 ∨ R 2 = S 2) ∧ (R 0 = 0 ∨ R 0 = 1 ∨ R 3 = S 3) ∧ (R 0 = 0 ∨ R 0 = 1 ∨ R 0 = 2 ∨ R 4 = S 4) ∧ (R 0 = 0 ∨ R 0 = 1 ∨ R 0 = 2 ∨ R 0 = 3 ∨ R 5 = S 5)
theorem eqR.beg (R S : Nat → Int32) : eqR (begR R) (begR S) := ⟨rfl, rfl, Or.inl rfl, Or.inl rfl, Or.inl rfl, Or.inl rfl⟩
theorem eqR.B {R S : Nat → Int32} {x : Int32} (h : eqR R S) : takeB R x = takeB S x := by
  obtain ⟨h0, h1, h2, h3, h4, h5⟩ := h
  unfold takeB
  rw [← h0, ← h1]
  by_cases z0 : R 0 = 0
  · rw [if_pos z0, if_pos z0]
  by_cases z1 : R 0 = 1
  · rw [if_neg z0, if_neg z0, if_pos z1, if_pos z1]
  by_cases z2 : R 0 = 2
  · rw [if_neg z0, if_neg z0, if_neg z1, if_neg z1, if_pos z2, if_pos z2]
  by_cases z3 : R 0 = 3
  · rw [if_neg z0, if_neg z0, if_neg z1, if_neg z1, if_neg z2, if_neg z2, if_pos z3, if_pos z3]
  rw [if_neg z0, if_neg z0, if_neg z1, if_neg z1, if_neg z2, if_neg z2, if_neg z3, if_neg z3]
  have e : R 5 = S 5 := by rcases h5 with q | q | q | q | q <;> first | exact absurd q z0 | exact absurd q z1 | exact absurd q z2 | exact absurd q z3 | exact q
  rw [e]
theorem eqR.R {R S : Nat → Int32} {x : Int32} (h : eqR R S) : eqR (takeR R x) (takeR S x) := by
  obtain ⟨h0, h1, h2, h3, h4, h5⟩ := h
  unfold takeR
  rw [← h0]
  by_cases z0 : R 0 = 0
  · rw [if_pos z0, if_pos z0]
    exact ⟨rfl, h1, Or.inr rfl, Or.inr (Or.inl rfl), Or.inr (Or.inl rfl), Or.inr (Or.inl rfl)⟩
  have e2 : R 2 = S 2 := h2.resolve_left z0
  by_cases z1 : R 0 = 1
  · rw [if_neg z0, if_neg z0, if_pos z1, if_pos z1]
    exact ⟨rfl, h1, Or.inr e2, Or.inr (Or.inr rfl), Or.inr (Or.inr (Or.inl rfl)), Or.inr (Or.inr (Or.inl rfl))⟩
  have e3 : R 3 = S 3 := (h3.resolve_left z0).resolve_left z1
  by_cases z2 : R 0 = 2
  · rw [if_neg z0, if_neg z0, if_neg z1, if_neg z1, if_pos z2, if_pos z2]
    exact ⟨rfl, h1, Or.inr e2, Or.inr (Or.inr e3), Or.inr (Or.inr (Or.inr rfl)), Or.inr (Or.inr (Or.inr (Or.inl rfl)))⟩
  have e4 : R 4 = S 4 := ((h4.resolve_left z0).resolve_left z1).resolve_left z2
  by_cases z3 : R 0 = 3
  · rw [if_neg z0, if_neg z0, if_neg z1, if_neg z1, if_neg z2, if_neg z2, if_pos z3, if_pos z3]
    exact ⟨rfl, h1, Or.inr e2, Or.inr (Or.inr e3), Or.inr (Or.inr (Or.inr e4)), Or.inr (Or.inr (Or.inr (Or.inr rfl)))⟩
  have e5 : R 5 = S 5 := (((h5.resolve_left z0).resolve_left z1).resolve_left z2).resolve_left z3
  rw [if_neg z0, if_neg z0, if_neg z1, if_neg z1, if_neg z2, if_neg z2, if_neg z3, if_neg z3]
  by_cases z4 : x = 59
  · rw [if_pos z4, if_pos z4]
    exact ⟨rfl, by show R 1 + 1 = S 1 + 1; rw [h1], Or.inl rfl, Or.inl rfl, Or.inl rfl, Or.inl rfl⟩
  · rw [if_neg z4, if_neg z4]
    exact ⟨rfl, h1, Or.inr e2, Or.inr (Or.inr e3), Or.inr (Or.inr (Or.inr e4)), Or.inr (Or.inr (Or.inr (Or.inr (by show 10 * R 5 + _ = 10 * S 5 + _; rw [e5]))))⟩
theorem eqR.S {R S C : Nat → Int32} (h : eqR R S) (i : Nat) : eqR (rdS R C i) (rdS S C i) := by
  induction i with
  | zero => exact h
  | succ i ih => exact ih.R
theorem eqR.good {R S C : Nat → Int32} {n : Nat} (h : eqR R S) : ∀ (f i : Nat), goodS R C n f i = goodS S C n f i
  | 0, i => rfl
  | f + 1, i => by simp only [goodS]; rw [(h.S i).B, eqR.good h f (i + 1)]
theorem eqR.lay {R S M : Nat → Int32} (h : eqR R S) (h4 : R 0 = 4) : layN R M = layN S M := by
  obtain ⟨h0, h1, h2, h3, h4', h5⟩ := h
  have z0 : ¬ R 0 = 0 := by rw [h4]; decide
  have z1 : ¬ R 0 = 1 := by rw [h4]; decide
  have z2 : ¬ R 0 = 2 := by rw [h4]; decide
  have z3 : ¬ R 0 = 3 := by rw [h4]; decide
  unfold layN
  rw [h2.resolve_left z0, (h3.resolve_left z0).resolve_left z1, ((h4'.resolve_left z0).resolve_left z1).resolve_left z2, (((h5.resolve_left z0).resolve_left z1).resolve_left z2).resolve_left z3]
theorem takeR_due {R : Nat → Int32} {x : Int32} (h : R 0 = 0 ∨ R 0 = 1 ∨ R 0 = 2 ∨ R 0 = 3 ∨ R 0 = 4) : takeR R x 0 = 0 ∨ takeR R x 0 = 1 ∨ takeR R x 0 = 2 ∨ takeR R x 0 = 3 ∨ takeR R x 0 = 4 := by
  unfold takeR
  by_cases z0 : R 0 = 0
  · rw [if_pos z0]; exact Or.inr (Or.inl rfl)
  by_cases z1 : R 0 = 1
  · rw [if_neg z0, if_pos z1]; exact Or.inr (Or.inr (Or.inl rfl))
  by_cases z2 : R 0 = 2
  · rw [if_neg z0, if_neg z1, if_pos z2]; exact Or.inr (Or.inr (Or.inr (Or.inl rfl)))
  by_cases z3 : R 0 = 3
  · rw [if_neg z0, if_neg z1, if_neg z2, if_pos z3]; exact Or.inr (Or.inr (Or.inr (Or.inr rfl)))
  rw [if_neg z0, if_neg z1, if_neg z2, if_neg z3]
  by_cases z4 : x = 59
  · rw [if_pos z4]; exact Or.inl rfl
  · rw [if_neg z4]; exact Or.inr (Or.inr (Or.inr (Or.inr rfl)))
theorem rdS_due {R C : Nat → Int32} (h : R 0 = 0) (i : Nat) : rdS R C i 0 = 0 ∨ rdS R C i 0 = 1 ∨ rdS R C i 0 = 2 ∨ rdS R C i 0 = 3 ∨ rdS R C i 0 = 4 := by
  induction i with
  | zero => exact Or.inl h
  | succ i ih => exact takeR_due ih
theorem goodS_all {R C : Nat → Int32} {n : Nat} : ∀ (f i : Nat), f + i = n → goodS R C n f i = n → ∀ j, i ≤ j → j < n → takeB (rdS R C j) (C j) ≠ 0
  | 0, i, hf, _, j, h1, h2 => absurd h2 (by omega)
  | f + 1, i, hf, hg, j, h1, h2 => by
    simp only [goodS] at hg
    rw [if_pos (by omega)] at hg
    by_cases z : takeB (rdS R C i) (C i) = 0
    · rw [if_pos z] at hg; omega
    · rw [if_neg z] at hg
      by_cases e : j = i
      · subst e; exact z
      · exact goodS_all f (i + 1) (by omega) hg j (by omega) h2
/-- the sign between parts is good behind a strength only -/
theorem semi_due {R : Nat → Int32} (h : R 0 = 0 ∨ R 0 = 1 ∨ R 0 = 2 ∨ R 0 = 3 ∨ R 0 = 4) (hb : takeB R 59 ≠ 0) : R 0 = 4 := by
  unfold takeB at hb
  rcases h with z | z | z | z | z
  · rw [if_pos z] at hb; exact absurd (by decide) hb
  · rw [if_neg (by rw [z]; decide), if_pos z] at hb; exact absurd (by decide) hb
  · rw [if_neg (by rw [z]; decide), if_neg (by rw [z]; decide), if_pos z] at hb; exact absurd (by decide) hb
  · rw [if_neg (by rw [z]; decide), if_neg (by rw [z]; decide), if_neg (by rw [z]; decide), if_pos z] at hb; exact absurd (by decide) hb
  · exact z
theorem eqR.lays {R S C M : Nat → Int32} (h : eqR R S) (h0 : R 0 = 0) {n : Nat} (hg : ∀ j, j < n → takeB (rdS R C j) (C j) ≠ 0) : laysN R C M n = laysN S C M n := by
  induction n with
  | zero => rfl
  | succ n ih =>
    simp only [laysN]
    rw [ih fun j hj => hg j (by omega)]
    by_cases hc : C n = 59
    · rw [if_pos hc, if_pos hc, (h.S n).lay (semi_due (rdS_due h0 n) (by have := hg n (by omega); rw [hc] at this; exact this))]
    · rw [if_neg hc, if_neg hc]
def r00 : Nat → Int32 := begR fun _ => 0
/-- the first syntax error; whether the text is complete bars -/
def fErr (C : Nat → Int32) (n : Nat) : Nat := goodS r00 C n n 0
def cmpl (C : Nat → Int32) (n : Nat) : Prop := fErr C n = n ∧ rdS r00 C n 0 = 4
theorem fErr_R (R0 C : Nat → Int32) (n : Nat) : goodS (begR R0) C n n 0 = fErr C n := (eqR.beg R0 _).good n 0
theorem due_R (R0 C : Nat → Int32) (n : Nat) : rdS (begR R0) C n 0 = rdS r00 C n 0 := ((eqR.beg R0 (fun _ => 0)).S n).1
theorem brs_R {R0 C N : Nat → Int32} {n : Nat} (h : cmpl C n) : brsN (begR R0) N C n = brsN r00 N C n := by
  have e := eqR.beg R0 (fun _ => 0)
  unfold brsN
  rw [(e.S n).lay ((due_R R0 C n).trans h.2), e.lays rfl (fun j hj => goodS_all n 0 (by omega) ((fErr_R R0 C n).trans h.1) j (by omega) hj)]
  rfl

/-- what lies outside the handles from lo to hi is as it was -/
def frX (lo hi : Nat) (st st1 : NW) : Prop := ∀ h : Nat, (h < lo ∨ hi ≤ h) → st1 h = st h
theorem frX.rf {lo hi : Nat} {st : NW} : frX lo hi st st := fun _ _ => rfl
theorem frX.tr1 {lo hi b : Nat} {st st1 st2 : NW} (h : frX lo hi st st1) (h2 : fr b st1 st2) (h3 : lo ≤ b) (h4 : b + 16 ≤ hi) : frX lo hi st st2 := fun k hk => (h2 k (by omega)).trans (h k hk)
def tx (C : Nat → Int32) (n : Nat) : Nat → Nat → Int32 := fun k => if k = 0 then C else if k = 1 then fun _ => nI n else fun _ => 0
theorem goodS_le {R C : Nat → Int32} {n : Nat} : ∀ (f i : Nat), i ≤ n → goodS R C n f i ≤ n
  | 0, i, h => h
  | f + 1, i, h => by
    simp only [goodS]
    split
    · split
      · omega
      · exact goodS_le f (i + 1) (by omega)
    · omega
theorem goodS_no {R C : Nat → Int32} {n f i : Nat} (h : i < n) (hf : 0 < f) (ht : takeB (rdS R C i) (C i) = 0) : goodS R C n f i = i := by
  obtain ⟨f, rfl⟩ : ∃ g, f = g + 1 := ⟨f - 1, by omega⟩
  simp only [goodS]
  rw [if_pos h, if_pos ht]
theorem goodS_yes {R C : Nat → Int32} {n i : Nat} (h : i < n) (ht : ¬ takeB (rdS R C i) (C i) = 0) : goodS R C n (n - i) i = goodS R C n (n - (i + 1)) (i + 1) := by
  rw [show n - i = (n - (i + 1)) + 1 by omega]
  simp only [goodS]
  rw [if_pos h, if_neg ht]
theorem goodS_end {R C : Nat → Int32} {n : Nat} : goodS R C n (n - n) n = n := by rw [Nat.sub_self]; rfl
theorem layS_t {R C : Nat → Int32} {G : Nat → Nat → Int32} {i : Nat} (h : C i = 59) : layS R C G (i + 1) = layR (rdS R C i) (layS R C G i) := by simp only [layS]; rw [if_pos h]
theorem layS_f {R C : Nat → Int32} {G : Nat → Nat → Int32} {i : Nat} (h : ¬ C i = 59) : layS R C G (i + 1) = layS R C G i := by simp only [layS]; rw [if_neg h]
theorem b10_t {P : Prop} [Decidable P] {r : Int32} (h : r = if P then 1 else 0) (c : ¬ r = 0) : P := by
  by_cases z : P
  · exact z
  · rw [h, if_neg z] at c
    exact absurd rfl c
theorem b10_f {P : Prop} [Decidable P] {r : Int32} (h : r = if P then 1 else 0) (c : r = 0) : ¬ P := fun z => by
  rw [h, if_pos z] at c
  exact absurd c (by decide)

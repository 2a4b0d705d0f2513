/-! worlds that grow: a fresh cell at the handle h, whose address is the heap's size -/
theorem nP.grow {E : NE} {ad : Nat → Nat} {st : NW} {H H1 : Heap} {h : Nat} {e : va_E} (hP : nP E ad st H) (ho : ∀ q, q < H.size → H1[q]? = H[q]?) (he : va_at E.1 vwCl (ad h, e) H1) : nP E ad (su st h e) H1 := by
  intro j f hj
  by_cases hjk : j = h
  · subst hjk; rw [su_s] at hj; cases hj; exact he
  · rw [su_n hjk] at hj
    exact (hP j f hj).kept (ho _ (hP j f hj).lt)
theorem nD.grow {E : NE} {A : Nat → Prop} {ad : Nat → Nat} {st : NW} {H : Heap} {h : Nat} {e : va_E} (hD : nD A ad st) (hP : nP E ad st H) (ha : ad h = H.size) (hA : A (ad h)) : nD A ad (su st h e) := by
  have lt : ∀ j, j ≠ h → su st h e j ≠ none → st j ≠ none := fun j hj z => by rw [su_n hj] at z; exact z
  refine ⟨fun i j hi hj hij => ?_, fun k hk => ?_⟩
  · by_cases h1 : i = h
    · by_cases h2 : j = h
      · rw [h1, h2]
      · have := hP.lt (lt j h2 hj); rw [h1, ha] at hij; omega
    · by_cases h2 : j = h
      · have := hP.lt (lt i h1 hi); rw [h2, ha] at hij; omega
      · exact hD.1 i j (lt i h1 hi) (lt j h2 hj) hij
  · by_cases h1 : k = h
    · rw [h1]; exact hA
    · exact hD.2 k (lt k h1 hk)


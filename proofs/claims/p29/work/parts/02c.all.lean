theorem all3 {P : Nat → Prop} (h0 : P 0) (h1 : P 1) (h2 : P 2) : ∀ k, k < 3 → P k
  | 0, _ => h0
  | 1, _ => h1
  | 2, _ => h2
  | k + 3, h => absurd h (by omega)
theorem all6 {P : Nat → Prop} (h0 : P 0) (h1 : P 1) (h2 : P 2) (h3 : P 3) (h4 : P 4) (h5 : P 5) : ∀ k, k < 6 → P k
  | 0, _ => h0
  | 1, _ => h1
  | 2, _ => h2
  | 3, _ => h3
  | 4, _ => h4
  | 5, _ => h5
  | k + 6, h => absurd h (by omega)
theorem all13 {P : Nat → Prop} (h0 : P 0) (h1 : P 1) (h2 : P 2) (h3 : P 3) (h4 : P 4) (h5 : P 5) (h6 : P 6) (h7 : P 7) (h8 : P 8) (h9 : P 9) (h10 : P 10) (h11 : P 11) (h12 : P 12) : ∀ k, k < 13 → P k
  | 0, _ => h0
  | 1, _ => h1
  | 2, _ => h2
  | 3, _ => h3
  | 4, _ => h4
  | 5, _ => h5
  | 6, _ => h6
  | 7, _ => h7
  | 8, _ => h8
  | 9, _ => h9
  | 10, _ => h10
  | 11, _ => h11
  | 12, _ => h12
  | k + 13, h => absurd h (by omega)
/-- a scalar field counts at 0 alone -/
theorem isR.eq0 {E : NE} {ad : Nat → Nat} {st : NW} {b : Nat} {S : NSc} {G G2 : Nat → Nat → Int32} (h : isR E ad st b S G) (e : ∀ k, k < S.2.length → G k = G2 k ∨ (S.2[k]? = some none ∧ G k 0 = G2 k 0)) : isR E ad st b S G2 := by
  have key : ∀ (r : List (Option (Nat × Nat))) (i : Nat), (∀ k, k < r.length → r[k]? = some none → G (i + k) 0 = G2 (i + k) 0) → rV ad b G i r = rV ad b G2 i r := by
    intro r
    induction r with
    | nil => intro i _; rfl
    | cons x r ih =>
      intro i hi
      have hi2 : ∀ k, k < r.length → r[k]? = some none → G (i + 1 + k) 0 = G2 (i + 1 + k) 0 := fun k hk hn => by
        have := hi (k + 1) (by simp; omega) (by simpa using hn)
        rw [show i + (k + 1) = i + 1 + k by omega] at this
        exact this
      cases x with
      | none =>
        simp only [rV]
        have := hi 0 (by simp) rfl
        rw [Nat.add_zero] at this
        rw [this, ih (i + 1) hi2]
      | some q =>
        obtain ⟨z, n⟩ := q
        simp only [rV]
        rw [ih (i + 1) hi2]
  refine ⟨by rw [h.1, key S.2 0 (fun k hk hn => by rw [Nat.zero_add]; exact (e k hk).elim (fun q => by rw [q]) (fun q => q.2))], fun k z n hk hz => ?_⟩
  rw [h.2 k z n hk hz]
  rcases e k (List.getElem?_eq_some_iff.mp hk).1 with q | q
  · rw [q]
  · rw [hk] at q; cases q.1


def tOK (T : Nat → Int32) (k : Nat) : Prop := ∀ j, j < k → ∃ c d s : Nat, c < 36 ∧ d < 8 ∧ 1 ≤ s ∧ s ≤ 50 ∧ T (3 * j) = nI c ∧ T (3 * j + 1) = nI d ∧ T (3 * j + 2) = nI s
def putT (T : Nat → Int32) (k c d s : Nat) : Nat → Int32 := upd (upd (upd T (3 * k) (nI c)) (3 * k + 1) (nI d)) (3 * k + 2) (nI s)
theorem putT_o {T : Nat → Int32} {k c d s j : Nat} (h : j < 3 * k) : putT T k c d s j = T j := by unfold putT; rw [upd_n (by omega), upd_n (by omega), upd_n (by omega)]
theorem putT_0 {T : Nat → Int32} {k c d s : Nat} : putT T k c d s (3 * k) = nI c := by unfold putT; rw [upd_n (by omega), upd_n (by omega), upd_s]
theorem putT_1 {T : Nat → Int32} {k c d s : Nat} : putT T k c d s (3 * k + 1) = nI d := by unfold putT; rw [upd_n (by omega), upd_s]
theorem putT_2 {T : Nat → Int32} {k c d s : Nat} : putT T k c d s (3 * k + 2) = nI s := by unfold putT; rw [upd_s]
theorem tOK.put {T : Nat → Int32} {k c d s : Nat} (h : tOK T k) (hc : c < 36) (hd : d < 8) (h1 : 1 ≤ s) (h2 : s ≤ 50) : tOK (putT T k c d s) (k + 1) := fun j hj => by
  by_cases z : j = k
  · subst z; exact ⟨c, d, s, hc, hd, h1, h2, putT_0, putT_1, putT_2⟩
  · obtain ⟨c2, d2, s2, q1, q2, q3, q4, q5, q6, q7⟩ := h j (by omega)
    exact ⟨c2, d2, s2, q1, q2, q3, q4, (putT_o (by omega)).trans q5, (putT_o (by omega)).trans q6, (putT_o (by omega)).trans q7⟩
/-- directions, held, strengths: all but the number of bars -/
def okU (S : Nat → Int32) : Prop := okM S ∧ okH S ∧ (∀ c, c < 36 → ∃ q : Nat, q ≤ 50 ∧ S (150 + c) = nI q)
theorem okU.bar {N : Nat → Int32} (h : okU N) {j d s : Nat} (hj : j < 36) (hd : d < 8) (hs : s ≤ 50) : okU (barN N j (nI d) (nI s)) := by
  refine ⟨h.1.bar hd hj, fun c hc => ?_, fun c hc => ?_⟩
  · rw [barN_lo (by omega)]; exact h.2.1 c hc
  · by_cases z : c = j
    · subst z; rw [barN_4]; exact ⟨s, hs, rfl⟩
    · rw [barN_o (by omega) (by omega)]; exact h.2.2 c hc
theorem cnI_one {P Q : Nat → Bool} {j : Nat} : ∀ n : Nat, (∀ k, k < n → k ≠ j → Q k = P k) → cnI Q n ≤ cnI P n + 1
  | 0, _ => by simp [cnI]
  | n + 1, h => by
    have i1 := cnI_one n fun k hk => h k (by omega)
    by_cases z : n = j
    · subst z
      have e : cnI Q n = cnI P n := cnI_cong fun k hk => h k (by omega) (by omega)
      simp only [cnI]
      rw [e]
      split <;> split <;> omega
    · simp only [cnI]
      rw [h n (by omega) z]
      split <;> omega
theorem barP_bar {N : Nat → Int32} {j : Nat} {d t : Int32} (hj : j < 36) : cnI (barP (barN N j d t)) 36 ≤ cnI (barP N) 36 + 1 := cnI_one (j := j) 36 fun k hk z => by
  unfold barP
  rw [barN_o (by omega) (by omega)]

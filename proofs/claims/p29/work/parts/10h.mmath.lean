def barN (N : Nat → Int32) (j : Nat) (d t : Int32) : Nat → Int32 := upd (upd N (114 + j) d) (150 + j) t
theorem barN_lo {N : Nat → Int32} {j i : Nat} {d t : Int32} (h : i < 114) : barN N j d t i = N i := by
  unfold barN
  rw [upd_n (by omega), upd_n (by omega)]
theorem barN_3 {N : Nat → Int32} {j : Nat} {d t : Int32} (hj : j < 36) : barN N j d t (114 + j) = d := by
  unfold barN
  rw [upd_n (by omega), upd_s]
theorem barN_4 {N : Nat → Int32} {j : Nat} {d t : Int32} : barN N j d t (150 + j) = t := by
  unfold barN
  rw [upd_s]
theorem barN_o {N : Nat → Int32} {j i : Nat} {d t : Int32} (h : i ≠ 114 + j) (h2 : i ≠ 150 + j) : barN N j d t i = N i := by
  unfold barN
  rw [upd_n h2, upd_n h]
theorem okM.bar {N : Nat → Int32} (h : okM N) {j : Nat} {d : Nat} {t : Int32} (hd : d < 8) (hj : j < 36) : okM (barN N j (nI d) t) := by
  refine ⟨fun c hc => ?_, fun c hc => ?_, ?_⟩
  · rw [barN_lo (by omega)]; exact h.1 c hc
  · by_cases z : c = j
    · subst z; rw [barN_3 hc]; exact ⟨⟨d, hd⟩, rfl⟩
    · rw [barN_o (by omega) (by omega)]; exact h.2.1 c hc
  · rw [barN_lo (by omega)]; exact h.2.2

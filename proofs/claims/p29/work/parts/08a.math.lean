/-! the field as sums -/
theorem nxs_at {t f : Nat → Int32} {w : Int32} {j : Nat} (n : Nat) : nxs t w f n j = smI (f j) (fun k => if nbr k j = true then w * t k else 0) n := by
  induction n with
  | zero => rfl
  | succ n ih =>
    rw [nxs_s, addN_at, smI_s, ih]
    by_cases h : nbr n j = true
    · rw [if_pos h, if_pos h]
    · rw [if_neg h, if_neg h, Int32.add_zero]
theorem gN11 {N : Nat → Int32} {c : Nat} : gN N 11 c = smI (smI (N 1 * N 4 * acr (N 5)) (fun k => bX (gB N 3) (gB N 4) k c) 36) (fun k => if nbr k c = true then gB N 5 2 * acr (gB N 0 k) else 0) 36 := by
  show maG (gB N) 11 c = _
  unfold maG mfG
  rw [gu_n (by decide), gu_s]
  unfold mfX
  rw [nxs_at]
  rfl
theorem gN12 {N : Nat → Int32} {c : Nat} : gN N 12 c = smI (smI (N 1 * N 4 * dwn (N 5) - N 0) (fun k => bY (gB N 3) (gB N 4) k c) 36) (fun k => if nbr k c = true then gB N 5 2 * dwn (gB N 0 k) else 0) 36 := by
  show maG (gB N) 12 c = _
  unfold maG mfG
  rw [gu_s]
  unfold mfY
  rw [nxs_at]
  rfl

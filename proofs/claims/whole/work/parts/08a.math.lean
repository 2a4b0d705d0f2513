/-! the field as sums -/
theorem nxs_at {t f : Nat → Int32} {w : Int32} {j : Nat} (n : Nat) : nxs t w f n j = smI (f j) (fun k => if nbr k j = true then w * t k else 0) n := by
  induction n with
  | zero => rfl
  | succ n ih =>
    rw [nxs_s, addN_at, smI_s, ih]
    by_cases h : nbr n j = true
    · rw [if_pos h, if_pos h]
    · rw [if_neg h, if_neg h, Int32.add_zero]
theorem smI_add {b : Int32} {f g : Nat → Int32} (n : Nat) : smI b (fun k => f k + g k) n = smI (smI b f n) g n := by
  have key : ∀ (n : Nat) (b x : Int32), smI (b + x) g n = smI b g n + x := by
    intro n
    induction n with
    | zero => intro b x; rfl
    | succ n ih => intro b x; rw [smI_s, smI_s, ih, Int32.add_assoc, Int32.add_assoc, Int32.add_comm x]
  induction n with
  | zero => rfl
  | succ n ih => rw [smI_s, ih, smI_s, smI_s, key, Int32.add_assoc]
/-- the base apart -/
theorem smI_base {f : Nat → Int32} (n : Nat) (b x : Int32) : smI (b + x) f n = smI b f n + x := by
  induction n with
  | zero => rfl
  | succ n ih => rw [smI_s, smI_s, ih, Int32.add_assoc, Int32.add_assoc, Int32.add_comm x]
theorem gN11 {N : Nat → Int32} {c : Nat} : gN N 11 c = smI (smI (N 1 * N 4 * acr (N 5)) (fun k => bX (gB N 3) (gB N 4) k c) 36) (fun k => if nbr k c = true then gB N 5 2 * acr (gB N 0 k) else 0) 36 := by
  show maG (gB N) 11 c = _
  unfold maG mfG
  rw [gu_n (by decide), gu_s]
  unfold mfX
  rw [nxs_at]
  rfl
theorem gN12 {N : Nat → Int32} {c : Nat} : gN N 12 c = smI (smI (N 1 * N 4 * dwn (N 5) - N 0) (fun k => bY (gB N 3) (gB N 4) k c) 36) (fun k => if nbr k c = true then gB N 5 2 * dwn (gB N 0 k) else 0) 36 := by
  show maG (gB N) 12 c = _
  unfold maG mfG
  rw [gu_s]
  unfold mfY
  rw [nxs_at]
  rfl
/-- the distance of one -/
def farI (k c : Int32) : Int32 := ab (rm6 k - rm6 c) + ab (k / 6 - c / 6)
theorem far1 : ∀ k : Fin 36, ∀ c : Fin 36, farI (nI k.val) (nI c.val) = 1 ↔ nbr k.val c.val = true := by decide +kernel
theorem far0 : ∀ k : Fin 36, ∀ c : Fin 36, k = c ∨ pSq (nI k.val) (nI c.val) ≠ 0 := by decide +kernel
theorem pSq_self : ∀ c : Fin 36, pSq (nI c.val) (nI c.val) = 0 := by decide +kernel
def xOf (d : Int32) : Int32 := if d = 2 then 0 else if d = 6 then 0 else if 3 ≤ d ∧ d ≤ 5 then -1 else 1
def yOf (d : Int32) : Int32 := if d = 0 then 0 else if d = 4 then 0 else if 1 ≤ d ∧ d ≤ 3 then 1 else -1
theorem xOf_8 : ∀ d : Fin 8, xOf (nI d.val) = acr (nI d.val) := by decide +kernel
theorem yOf_8 : ∀ d : Fin 8, yOf (nI d.val) = dwn (nI d.val) := by decide +kernel

theorem e0 : ∀ m : Fin 127, inI (nI m.val) 48 53 = if nI m.val - 48 < 0 then 0 else if 6 ≤ nI m.val - 48 then 0 else 1 := by decide +kernel
theorem e2 : ∀ m : Fin 127, inI (nI m.val) 97 104 = if nI m.val - 97 < 0 then 0 else if 8 ≤ nI m.val - 97 then 0 else 1 := by decide +kernel
theorem e3 : ∀ m : Fin 127, inI (nI m.val) 49 57 = if nI m.val - 48 < 1 then 0 else if 9 < nI m.val - 48 then 0 else 1 := by decide +kernel
theorem n2 : ∀ m : Fin 127, inI (nI m.val) 97 104 ≠ 0 → ∃ a : Fin 8, m.val = 97 + a.val := by decide +kernel

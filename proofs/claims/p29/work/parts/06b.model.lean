/-! what the object's fields are, told by N -/
theorem gN0 {N : Nat → Int32} {c : Nat} (hc : c < 36) : gN N 0 c = N (6 + c) := by show maG (gB N) 0 c = _; rw [maG_lo (by omega)]; exact mk_in (f := fun j => N (6 + j)) hc
theorem gN1 {N : Nat → Int32} {c : Nat} (hc : c < 36) : gN N 1 c = N (42 + c) := by show maG (gB N) 1 c = _; rw [maG_lo (by omega)]; exact mk_in (f := fun j => N (42 + j)) hc
theorem gN2 {N : Nat → Int32} {c : Nat} (hc : c < 36) : gN N 2 c = N (78 + c) := by show maG (gB N) 2 c = _; rw [maG_lo (by omega)]; exact mk_in (f := fun j => N (78 + j)) hc
theorem gN3 {N : Nat → Int32} {c : Nat} (hc : c < 36) : gN N 3 c = N (114 + c) := by show maG (gB N) 3 c = _; rw [maG_lo (by omega)]; exact mk_in (f := fun j => N (114 + j)) hc
theorem gN4 {N : Nat → Int32} {c : Nat} (hc : c < 36) : gN N 4 c = N (150 + c) := by show maG (gB N) 4 c = _; rw [maG_lo (by omega)]; exact mk_in (f := fun j => N (150 + j)) hc
theorem gN5 {N : Nat → Int32} {c : Nat} (hc : c < 3) : gN N 5 c = N c := by show maG (gB N) 5 c = _; rw [maG_lo (by omega)]; exact mk_in (f := N) hc
theorem gN6 {N : Nat → Int32} {j : Nat} : gN N 6 j = N 4 := by show maG (gB N) 6 j = _; rw [maG_lo (by omega)]; rfl
theorem gN7 {N : Nat → Int32} {j : Nat} : gN N 7 j = N 5 := by show maG (gB N) 7 j = _; rw [maG_lo (by omega)]; rfl
theorem gN8 {N : Nat → Int32} {j : Nat} : gN N 8 j = N 3 := by show maG (gB N) 8 j = _; rw [maG_lo (by omega)]; rfl
theorem gu_cm {G : Nat → Nat → Int32} {i j : Nat} {f g : Nat → Int32} (h : i ≠ j) : gu (gu G i f) j g = gu (gu G j g) i f := by
  funext k
  by_cases hi : k = i
  · subst hi; rw [gu_n h, gu_s, gu_s]
  · by_cases hj : k = j
    · subst hj; rw [gu_s, gu_n hi, gu_s]
    · rw [gu_n hj, gu_n hi, gu_n hi, gu_n hj]
theorem gT_8 {G : Nat → Nat → Int32} {f : Nat → Int32} : gT (gu G 8 f) = gT G := by
  funext k
  unfold gT
  rw [gu_n (by decide), gu_n (by decide), gu_n (by decide), gu_n (by decide), gu_n (by decide)]
theorem taN_8 {G : Nat → Nat → Int32} {f : Nat → Int32} {n : Nat} : taN (gu G 8 f) n = taN G n := by
  unfold taN
  rw [gT_8, gu_n (by decide)]
def swpN (N : Nat → Int32) (c o : Nat) : Nat → Int32 := upd (upd (upd (upd N (42 + c) (N (42 + o))) (42 + o) (N (42 + c))) (6 + c) (N (6 + o))) (6 + o) (N (6 + c))
theorem gN_needle2 {M : Nat → Int32} {c o : Nat} {a b : Int32} (hc : c < 36) (ho : o < 36) : mfG (gu (gN M) 0 (upd (upd (gN M 0) c a) o b)) = gN (upd (upd M (6 + c) a) (6 + o) b) := by
  unfold gN
  rw [gB_needle ho, gB_needle hc, gu_s, gu_gu, mf_ma, maG_lo (k := 0) (by omega)]
theorem gN_friction2 {M : Nat → Int32} {c o : Nat} {a b : Int32} (hc : c < 36) (ho : o < 36) : gu (gN M) 1 (upd (upd (gN M 1) c a) o b) = gN (upd (upd M (42 + c) a) (42 + o) b) := by
  rw [← gN_friction ho, ← gN_friction hc, gu_s, gu_gu]
theorem gN_swap {N : Nat → Int32} {c o : Nat} (hc : c < 36) (ho : o < 36) : mfG (gu (gu (gN N) 0 (upd (upd (gN N 0) c (gN N 0 o)) o (gN N 0 c))) 1 (upd (upd (gN N 1) c (gN N 1 o)) o (gN N 1 c))) = gN (swpN N c o) := by
  unfold swpN
  have e0 : gN (upd (upd N (42 + c) (N (42 + o))) (42 + o) (N (42 + c))) 0 = gN N 0 := by rw [← gN_friction2 hc ho, gu_n (by decide)]
  rw [gN0 hc, gN0 ho, gN1 hc, gN1 ho, gu_cm (by decide), gN_friction2 hc ho, ← gN_needle2 hc ho, e0]
theorem gN_step {N : Nat → Int32} {n : Nat} {v : Int32} (hv : v = N 3 + nI n) : gu (tgG (gN N) n) 8 (fun _ => tgG (gN N) n 8 0 + nI n) = gN (upd (itN N n) 3 v) := by
  rw [tg_gN, gN_steps, gN8, itN_lo (by omega), hv]
/-- at rest -/
theorem stpN_3 {N : Nat → Int32} {v : Int32} : stpN (upd N 3 v) = upd (stpN N) 3 v := by
  funext i
  have e : gT (gN (upd N 3 v)) = gT (gN N) := by rw [← gN_steps, gT_8]
  by_cases h : i = 3
  · subst h; rw [upd_s, stpN_lo (by omega), upd_s]
  · rw [upd_n h]
    unfold stpN
    rw [e, upd_n h]
def rsN (N : Nat → Int32) : Nat → Nat → Int32
  | 0 => N
  | n + 1 => upd (stpN (rsN N n)) 3 (rsN N n 3 + nI 1)
theorem rsN_it {N : Nat → Int32} (n : Nat) : ∃ v, rsN N n = upd (itN N n) 3 v := by
  induction n with
  | zero =>
    refine ⟨N 3, ?_⟩
    funext i
    show N i = upd N 3 (N 3) i
    by_cases h : i = 3
    · subst h; rw [upd_s]
    · rw [upd_n h]
  | succ n ih =>
    obtain ⟨v, hv⟩ := ih
    refine ⟨v + nI 1, ?_⟩
    show upd (stpN (rsN N n)) 3 (rsN N n 3 + nI 1) = upd (stpN (itN N n)) 3 (v + nI 1)
    rw [hv, stpN_3, upd_s]
    funext i
    by_cases h : i = 3
    · subst h; rw [upd_s, upd_s]
    · rw [upd_n h, upd_n h, upd_n h]
theorem taN_rs {N : Nat → Int32} (n : Nat) : taN (gN (rsN N n)) 36 = taN (gN (itN N n)) 36 := by
  obtain ⟨v, hv⟩ := rsN_it (N := N) n
  rw [hv, ← gN_steps, taN_8]
theorem gN_rs {N : Nat → Int32} (n : Nat) : gu (tgG (gN (rsN N n)) 1) 8 (fun _ => tgG (gN (rsN N n)) 1 8 0 + nI 1) = gN (rsN N (n + 1)) := gN_step (n := 1) rfl
def rstP (N : Nat → Int32) : Nat → Bool := fun i => decide (taN (gN (itN N i)) 36 = 0)


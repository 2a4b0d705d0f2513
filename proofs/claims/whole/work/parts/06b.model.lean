/-! what the object's fields are, told by N -/
theorem gN0 {N : Nat → Int32} {c : Nat} (hc : c < 36) : gN N 0 c = N (6 + c) := by show maG (gB N) 0 c = _; rw [maG_lo (by omega)]; exact mk_in (f := fun j => N (6 + j)) hc
theorem gN1 {N : Nat → Int32} {c : Nat} (hc : c < 36) : gN N 1 c = N (42 + c) := by show maG (gB N) 1 c = _; rw [maG_lo (by omega)]; exact mk_in (f := fun j => N (42 + j)) hc
theorem gN2 {N : Nat → Int32} {c : Nat} (hc : c < 36) : gN N 2 c = N (78 + c) := by show maG (gB N) 2 c = _; rw [maG_lo (by omega)]; exact mk_in (f := fun j => N (78 + j)) hc
theorem gN3 {N : Nat → Int32} {c : Nat} (hc : c < 36) : gN N 3 c = N (114 + c) := by show maG (gB N) 3 c = _; rw [maG_lo (by omega)]; exact mk_in (f := fun j => N (114 + j)) hc
theorem gN4 {N : Nat → Int32} {c : Nat} (hc : c < 36) : gN N 4 c = N (150 + c) := by show maG (gB N) 4 c = _; rw [maG_lo (by omega)]; exact mk_in (f := fun j => N (150 + j)) hc
theorem gN5 {N : Nat → Int32} {c : Nat} (hc : c < 3) : gN N 5 c = N c := by show maG (gB N) 5 c = _; rw [maG_lo (by omega)]; exact mk_in (f := N) hc
theorem gN6 {N : Nat → Int32} {j : Nat} : gN N 6 j = N 4 := by show maG (gB N) 6 j = _; rw [maG_lo (by omega)]; rfl
theorem gN7 {N : Nat → Int32} {j : Nat} : gN N 7 j = N 5 := by show maG (gB N) 7 j = _; rw [maG_lo (by omega)]; rfl
theorem gN8 {N : Nat → Int32} {j : Nat} : gN N 8 j = N 3 := by show maG (gB N) 8 j = _; rw [maG_lo (by omega)]; rfl
theorem gu_cm {G : Nat → Nat → Int32} {i j : Nat} {f g : Nat → Int32} (h : i ≠ j) : gu (gu G i f) j g = gu (gu G j g) i f := by
  funext k
  by_cases hi : k = i
  · subst hi; rw [gu_n h, gu_s, gu_s]
  · by_cases hj : k = j
    · subst hj; rw [gu_s, gu_n hi, gu_s]
    · rw [gu_n hj, gu_n hi, gu_n hi, gu_n hj]
theorem gT_8 {G : Nat → Nat → Int32} {f : Nat → Int32} : gT (gu G 8 f) = gT G := by
  funext k
  unfold gT
  rw [gu_n (by decide), gu_n (by decide), gu_n (by decide), gu_n (by decide), gu_n (by decide)]
theorem taN_8 {G : Nat → Nat → Int32} {f : Nat → Int32} {n : Nat} : taN (gu G 8 f) n = taN G n := by
  unfold taN
  rw [gT_8, gu_n (by decide)]
def swpN (N : Nat → Int32) (c o : Nat) : Nat → Int32 := upd (upd (upd (upd N (42 + c) (N (42 + o))) (42 + o) (N (42 + c))) (6 + c) (N (6 + o))) (6 + o) (N (6 + c))
theorem gN_needle2 {M : Nat → Int32} {c o : Nat} {a b : Int32} (hc : c < 36) (ho : o < 36) : mfG (gu (gN M) 0 (upd (upd (gN M 0) c a) o b)) = gN (upd (upd M (6 + c) a) (6 + o) b) := by
  unfold gN
  rw [gB_needle ho, gB_needle hc, gu_s, gu_gu, mf_ma, maG_lo (k := 0) (by omega)]
theorem gN_friction2 {M : Nat → Int32} {c o : Nat} {a b : Int32} (hc : c < 36) (ho : o < 36) : gu (gN M) 1 (upd (upd (gN M 1) c a) o b) = gN (upd (upd M (42 + c) a) (42 + o) b) := by
  rw [← gN_friction ho, ← gN_friction hc, gu_s, gu_gu]
theorem gN_swap {N : Nat → Int32} {c o : Nat} (hc : c < 36) (ho : o < 36) : mfG (gu (gu (gN N) 0 (upd (upd (gN N 0) c (gN N 0 o)) o (gN N 0 c))) 1 (upd (upd (gN N 1) c (gN N 1 o)) o (gN N 1 c))) = gN (swpN N c o) := by
  unfold swpN
  have e0 : gN (upd (upd N (42 + c) (N (42 + o))) (42 + o) (N (42 + c))) 0 = gN N 0 := by rw [← gN_friction2 hc ho, gu_n (by decide)]
  rw [gN0 hc, gN0 ho, gN1 hc, gN1 ho, gu_cm (by decide), gN_friction2 hc ho, ← gN_needle2 hc ho, e0]
theorem gN_step {N : Nat → Int32} {n : Nat} {v : Int32} (hv : v = N 3 + nI n) : gu (tgG (gN N) n) 8 (fun _ => tgG (gN N) n 8 0 + nI n) = gN (upd (itN N n) 3 v) := by
  rw [tg_gN, gN_steps, gN8, itN_lo (by omega), hv]
/-! a state of bars out of a text -/
theorem gB_lo {N : Nat → Int32} {k : Nat} (h : k < 9 ∨ 13 ≤ k) : gN N k = gB N k := maG_lo h
def layN (R : Nat → Int32) (N : Nat → Int32) : Nat → Int32 :=
  if R 3 * 6 + R 2 < 0 then N else if 36 ≤ R 3 * 6 + R 2 then N else upd (upd N (114 + (R 3 * 6 + R 2).toNatClampNeg) (R 4)) (150 + (R 3 * 6 + R 2).toNatClampNeg) (R 5)
def laysN (R : Nat → Int32) (C : Nat → Int32) (N : Nat → Int32) : Nat → Nat → Int32
  | 0 => N
  | i + 1 => if C i = 59 then layN (rdS R C i) (laysN R C N i) else laysN R C N i
def takN (N : Nat → Int32) : Nat → Int32 := fun i => if 114 ≤ i ∧ i < 186 then 0 else N i
def brsN (R : Nat → Int32) (N : Nat → Int32) (C : Nat → Int32) (n : Nat) : Nat → Int32 := layN (rdS R C n) (laysN R C (takN N) n)
def likeB (G : Nat → Nat → Int32) (M : Nat → Int32) : Prop := ∀ k, k < 9 ∨ 13 ≤ k → G k = gB M k
theorem likeB.lay {G : Nat → Nat → Int32} {M R : Nat → Int32} (h : likeB G M) : likeB (layR R G) (layN R M) := by
  unfold layR layN
  by_cases h1 : R 3 * 6 + R 2 < 0
  · rw [if_pos h1, if_pos h1]; exact h
  · rw [if_neg h1, if_neg h1]
    by_cases h2 : 36 ≤ R 3 * 6 + R 2
    · rw [if_pos h2, if_pos h2]; exact h
    · rw [if_neg h2, if_neg h2]
      have hc : (R 3 * 6 + R 2).toNatClampNeg < 36 := by
        rcases pk_ix (R 3 * 6 + R 2) (n := 36) (by decide) with q | q | ⟨j, hj, hxj⟩
        · exact absurd q h1
        · exact absurd q h2
        · rw [hxj, nI_clamp (by omega)]; exact hj
      intro k hk
      rw [gB_strength hc, gB_towards hc, gu_n (k := 3) (j := 4) (by decide), ← h 3 (by omega), ← h 4 (by omega)]
      by_cases h4 : k = 4
      · subst h4; rw [gu_s, gu_s]
      · rw [gu_n h4, gu_n h4]
        by_cases h3 : k = 3
        · subst h3; rw [gu_s, gu_s]
        · rw [gu_n h3, gu_n h3]; exact h k hk
theorem likeB.lays {G : Nat → Nat → Int32} {M R C : Nat → Int32} (h : likeB G M) (n : Nat) : likeB (layS R C G n) (laysN R C M n) := by
  induction n with
  | zero => exact h
  | succ n ih =>
    simp only [layS, laysN]
    by_cases hc : C n = 59
    · rw [if_pos hc, if_pos hc]; exact ih.lay
    · rw [if_neg hc, if_neg hc]; exact ih
theorem likeB.tak {N : Nat → Int32} : likeB (gu (gu (gN N) 3 (fil (fun _ => 0) (gN N 3) 36)) 4 (fil (fun _ => 0) (gN N 4) 36)) (takN N) := by
  have z : ∀ o, 114 ≤ o → o + 36 ≤ 186 → ∀ f : Nat → Int32, (∀ j, 36 ≤ j → f j = 0) → fil (fun _ => 0) f 36 = mk 36 (fun j => takN N (o + j)) := fun o h1 h2 f hf => by
    funext j
    by_cases hj : j < 36
    · rw [fil_in hj, mk_in hj]; simp only [takN]; rw [if_pos (by omega)]
    · simp only [fil, mk]; rw [if_neg hj, if_neg hj, hf j (by omega)]
  have o : ∀ o n, o + n ≤ 114 → mk n (fun j => takN N (o + j)) = mk n (fun j => N (o + j)) := fun o n h => mk_eq fun j hj => by simp only [takN]; rw [if_neg (by omega)]
  intro k hk
  by_cases h4 : k = 4
  · subst h4; rw [gu_s]; exact z 150 (by omega) (by omega) _ (fun j hj => by rw [gB_lo (by omega)]; show mk 36 (fun j => N (150 + j)) j = 0; simp only [mk]; rw [if_neg (by omega)])
  by_cases h3 : k = 3
  · subst h3; rw [gu_n (by decide), gu_s]; exact z 114 (by omega) (by omega) _ (fun j hj => by rw [gB_lo (by omega)]; show mk 36 (fun j => N (114 + j)) j = 0; simp only [mk]; rw [if_neg (by omega)])
  rw [gu_n h4, gu_n h3, gB_lo hk]
  match k, hk, h3, h4 with
  | 0, _, _, _ => exact (o 6 36 (by omega)).symm
  | 1, _, _, _ => exact (o 42 36 (by omega)).symm
  | 2, _, _, _ => exact (o 78 36 (by omega)).symm
  | 5, _, _, _ => exact (mk_eq fun j hj => by simp only [takN]; rw [if_neg (by omega)] : mk 3 (takN N) = mk 3 N).symm
  | 6, _, _, _ => rfl
  | 7, _, _, _ => rfl
  | 8, _, _, _ => rfl
  | k + 9, _, _, _ => rfl
theorem gN_bars {N R C : Nat → Int32} {n : Nat} : maG (layR (rdS R C n) (layS R C (gu (gu (gN N) 3 (fil (fun _ => 0) (gN N 3) 36)) 4 (fil (fun _ => 0) (gN N 4) 36)) n)) = gN (brsN R N C n) := maG_eq fun k hk => ((likeB.tak.lays n).lay) k hk
/-- at rest -/
theorem stpN_3 {N : Nat → Int32} {v : Int32} : stpN (upd N 3 v) = upd (stpN N) 3 v := by
  funext i
  have e : gT (gN (upd N 3 v)) = gT (gN N) := by rw [← gN_steps, gT_8]
  by_cases h : i = 3
  · subst h; rw [upd_s, stpN_lo (by omega), upd_s]
  · rw [upd_n h]
    unfold stpN
    rw [e, upd_n h]
def rsN (N : Nat → Int32) : Nat → Nat → Int32
  | 0 => N
  | n + 1 => upd (stpN (rsN N n)) 3 (rsN N n 3 + nI 1)
theorem rsN_it {N : Nat → Int32} (n : Nat) : ∃ v, rsN N n = upd (itN N n) 3 v := by
  induction n with
  | zero =>
    refine ⟨N 3, ?_⟩
    funext i
    show N i = upd N 3 (N 3) i
    by_cases h : i = 3
    · subst h; rw [upd_s]
    · rw [upd_n h]
  | succ n ih =>
    obtain ⟨v, hv⟩ := ih
    refine ⟨v + nI 1, ?_⟩
    show upd (stpN (rsN N n)) 3 (rsN N n 3 + nI 1) = upd (stpN (itN N n)) 3 (v + nI 1)
    rw [hv, stpN_3, upd_s]
    funext i
    by_cases h : i = 3
    · subst h; rw [upd_s, upd_s]
    · rw [upd_n h, upd_n h, upd_n h]
theorem taN_rs {N : Nat → Int32} (n : Nat) : taN (gN (rsN N n)) 36 = taN (gN (itN N n)) 36 := by
  obtain ⟨v, hv⟩ := rsN_it (N := N) n
  rw [hv, ← gN_steps, taN_8]
theorem gN_rs {N : Nat → Int32} (n : Nat) : gu (tgG (gN (rsN N n)) 1) 8 (fun _ => tgG (gN (rsN N n)) 1 8 0 + nI 1) = gN (rsN N (n + 1)) := gN_step (n := 1) rfl
def rstP (N : Nat → Int32) : Nat → Bool := fun i => decide (taN (gN (itN N i)) 36 = 0)

/-! needles by their directions: they add up -/
def ptC (N : Nat → Int32) (d : Nat) : Int32 := nI (cnI (fun k => decide (gN N 0 k = nI d)) 36)
theorem one_8 : ∀ d : Fin 8, (if decide (nI d.val = nI 0) = true then 1 else 0) + (if decide (nI d.val = nI 1) = true then 1 else 0) + (if decide (nI d.val = nI 2) = true then 1 else 0) + (if decide (nI d.val = nI 3) = true then 1 else 0) + (if decide (nI d.val = nI 4) = true then 1 else 0) + (if decide (nI d.val = nI 5) = true then 1 else 0) + (if decide (nI d.val = nI 6) = true then 1 else 0) + (if decide (nI d.val = nI 7) = true then 1 else 0) = 1 := by decide +kernel
def eqC (f : Nat → Int32) (d n : Nat) : Nat := cnI (fun k => decide (f k = nI d)) n
theorem eqC_s (f : Nat → Int32) (d n : Nat) : eqC f d (n + 1) = eqC f d n + if decide (f n = nI d) = true then 1 else 0 := rfl
theorem sum_8 {f : Nat → Int32} (h : ∀ k, k < 36 → ∃ d : Fin 8, f k = nI d.val) : ∀ n : Nat, n ≤ 36 → eqC f 0 n + eqC f 1 n + eqC f 2 n + eqC f 3 n + eqC f 4 n + eqC f 5 n + eqC f 6 n + eqC f 7 n = n
  | 0, _ => rfl
  | n + 1, hn => by
    have i1 := sum_8 h n (by omega)
    obtain ⟨d, hd⟩ := h n (by omega)
    have i2 := one_8 d
    rw [eqC_s, eqC_s, eqC_s, eqC_s, eqC_s, eqC_s, eqC_s, eqC_s, hd]
    generalize (if decide (nI d.val = nI 0) = true then 1 else 0) = v0 at i2 ⊢
    generalize (if decide (nI d.val = nI 1) = true then 1 else 0) = v1 at i2 ⊢
    generalize (if decide (nI d.val = nI 2) = true then 1 else 0) = v2 at i2 ⊢
    generalize (if decide (nI d.val = nI 3) = true then 1 else 0) = v3 at i2 ⊢
    generalize (if decide (nI d.val = nI 4) = true then 1 else 0) = v4 at i2 ⊢
    generalize (if decide (nI d.val = nI 5) = true then 1 else 0) = v5 at i2 ⊢
    generalize (if decide (nI d.val = nI 6) = true then 1 else 0) = v6 at i2 ⊢
    generalize (if decide (nI d.val = nI 7) = true then 1 else 0) = v7 at i2 ⊢
    omega
theorem pt_36 {N : Nat → Int32} (h : okP N) : smI 0 (ptC N) 8 = 36 := by
  have e := sum_8 (f := gN N 0) (fun k hk => by obtain ⟨d, hd⟩ := h.1.1.1 k hk; exact ⟨d, (gN0 hk).trans hd⟩) 36 (by omega)
  have k : ∀ d, ptC N d = nI (eqC (gN N 0) d 36) := fun _ => rfl
  simp only [smI, k]
  generalize eqC (gN N 0) 0 36 = v0 at e ⊢
  generalize eqC (gN N 0) 1 36 = v1 at e ⊢
  generalize eqC (gN N 0) 2 36 = v2 at e ⊢
  generalize eqC (gN N 0) 3 36 = v3 at e ⊢
  generalize eqC (gN N 0) 4 36 = v4 at e ⊢
  generalize eqC (gN N 0) 5 36 = v5 at e ⊢
  generalize eqC (gN N 0) 6 36 = v6 at e ⊢
  generalize eqC (gN N 0) 7 36 = v7 at e ⊢
  rw [Int32.zero_add, nI_add, nI_add, nI_add, nI_add, nI_add, nI_add, nI_add]
  exact congrArg nI e
/-! bars by their places -/
theorem cnI_up {P : Nat → Bool} {i : Nat} : ∀ n : Nat, cnI P i ≤ cnI P (i + n)
  | 0 => Nat.le_refl _
  | n + 1 => Nat.le_trans (cnI_up n) (by show cnI P (i + n) ≤ cnI P (i + n) + _; omega)
theorem cnI_upL {P : Nat → Bool} {i j : Nat} (h : i ≤ j) : cnI P i ≤ cnI P j := by
  obtain ⟨n, rfl⟩ : ∃ n, j = i + n := ⟨j - i, by omega⟩
  exact cnI_up n
theorem fnd_at {P : Nat → Bool} {p : Nat} : ∀ n i : Nat, p < cnI P (i + n) → cnI P i ≤ p → i + n ≤ 36 → ∃ j, fndB P (nI p) n i = nI j ∧ i ≤ j ∧ j < i + n ∧ P j = true ∧ cnI P j = p
  | 0, i, h, h2, _ => absurd h (by show ¬ p < cnI P i; omega)
  | n + 1, i, h, h2, h3 => by
    have hp : p ≤ 36 := Nat.le_trans (Nat.le_of_lt h) (Nat.le_trans (cnI_le _ _) h3)
    have hi := cnI_le P i
    simp only [fndB]
    by_cases hP : P i = true
    · rw [if_pos hP]
      by_cases he : cnI P i = p
      · rw [if_pos (by rw [he])]
        exact ⟨i, rfl, Nat.le_refl _, by omega, hP, he⟩
      · rw [if_neg (fun z => he ((nI_eq (by omega) (by omega)).mp z))]
        obtain ⟨j, a, b, c, d, e⟩ := fnd_at (P := P) (p := p) n (i + 1) (by rw [show i + 1 + n = i + (n + 1) by omega]; exact h) (by rw [cnI_t hP]; omega) (by omega)
        exact ⟨j, a, by omega, by omega, d, e⟩
    · rw [if_neg hP]
      obtain ⟨j, a, b, c, d, e⟩ := fnd_at (P := P) (p := p) n (i + 1) (by rw [show i + 1 + n = i + (n + 1) by omega]; exact h) (by rw [cnI_f (by simpa using hP)]; omega) (by omega)
      exact ⟨j, a, by omega, by omega, d, e⟩
theorem fnd_no {P : Nat → Bool} {p : Nat} (hp : p < 2 ^ 31) : ∀ n i : Nat, cnI P (i + n) ≤ p → i + n ≤ 36 → fndB P (nI p) n i = -1
  | 0, i, _, _ => rfl
  | n + 1, i, h, h3 => by
    have k := fnd_no (P := P) hp n (i + 1) (by rw [show i + 1 + n = i + (n + 1) by omega]; exact h) (by omega)
    have hi := cnI_le P i
    simp only [fndB]
    by_cases hP : P i = true
    · have h1 : cnI P i < p := by
        have := cnI_up (P := P) (i := i + 1) n
        rw [cnI_t hP, show i + 1 + n = i + (n + 1) by omega] at this
        omega
      rw [if_pos hP, if_neg (fun z => by have := (nI_eq (by omega) (by omega)).mp z; omega), k]
    · rw [if_neg hP, k]
def brC (N : Nat → Int32) : Nat := cnI (fun k => isB (gN N 4) k) 36
theorem brC_6 {N : Nat → Int32} (h : okP N) : brC N ≤ 6 := by
  have e : brC N = cnI (barP N) 36 := cnI_cong fun k hk => by unfold barP isB; rw [gN4 hk]
  rw [e]
  exact h.1.2.2.2
theorem nI_m1n {j : Nat} (h : j < 36) : ¬ nI j = -1 := fun z => by
  have h1 := congrArg Int32.toInt z
  rw [nI_toInt (by omega)] at h1
  have h2 : (-1 : Int32).toInt = -1 := by decide
  omega
theorem bar_at {N : Nat → Int32} {p : Nat} (hp : p < brC N) : ∃ j, j < 36 ∧ barA N (nI p) 0 = nI j ∧ cnI (isB (gN N 4)) j = p ∧ isB (gN N 4) j = true ∧ barA N (nI p) 2 = N (150 + j) := by
  obtain ⟨j, a, -, b, c, d⟩ := fnd_at (P := isB (gN N 4)) (p := p) 36 0 (by rw [Nat.zero_add]; exact hp) (Nat.zero_le _) (by omega)
  have hj : j < 36 := by omega
  refine ⟨j, hj, ?_, d, c, ?_⟩
  · unfold barA
    rw [a, if_neg (nI_m1n hj), if_pos rfl]
  · unfold barA
    rw [a, if_neg (nI_m1n hj), if_neg (by decide), if_neg (by decide), nI_clamp (by omega), gN4 hj]
theorem bar_no {N : Nat → Int32} : barA N (nI (brC N)) 0 = -1 := by
  have hb : brC N ≤ 36 := cnI_le _ _
  have e := fnd_no (P := isB (gN N 4)) (p := brC N) (by omega) 36 0 (by rw [Nat.zero_add]; exact Nat.le_refl _) (by omega)
  unfold barA
  rw [if_pos e]
theorem bar_up {N : Nat → Int32} {i : Nat} (hi : i < brC N) (h0 : 0 < i) : ¬ barA N (nI i) 0 ≤ barA N (nI (i - 1)) 0 := by
  obtain ⟨j, hj, a, b, -, -⟩ := bar_at hi
  obtain ⟨j2, hj2, a2, b2, c2, -⟩ := bar_at (N := N) (p := i - 1) (by omega)
  rw [a, a2, nI_leI (by omega) (by omega)]
  intro h
  have := cnI_upL (P := isB (gN N 4)) h
  omega
theorem bar_st {N : Nat → Int32} (h : okP N) {i : Nat} (hi : i < brC N) : ¬ barA N (nI i) 2 < 1 ∧ ¬ 50 < barA N (nI i) 2 := by
  obtain ⟨j, hj, -, -, c, e⟩ := bar_at hi
  obtain ⟨q, hq, eq⟩ := h.1.2.2.1 j hj
  unfold isB at c
  rw [gN4 hj, eq] at c
  rw [e, eq]
  have q0 : q ≠ 0 := fun z => by
    subst z
    exact absurd c (by decide)
  refine ⟨fun z => ?_, fun z => ?_⟩
  · have := (nI_ltI (a := q) (b := 1) (by omega) (by omega)).mp z
    omega
  · have := (nI_ltI (a := 50) (b := q) (by omega) (by omega)).mp z
    omega
/-! steps, rest -/
theorem cnI_0 {P : Nat → Bool} : ∀ n : Nat, cnI P n = 0 → ∀ k, k < n → P k = false
  | 0, _, k, hk => absurd hk (by omega)
  | n + 1, h, k, hk => by
    cases hp : P n with
    | true => rw [cnI_t hp] at h; omega
    | false =>
      rw [cnI_f hp] at h
      by_cases z : k = n
      · rw [z]; exact hp
      · exact cnI_0 n h k (by omega)
theorem taN_le {G : Nat → Nat → Int32} {n : Nat} : taN G n ≤ n := cnI_le _ _
theorem tgN_n (G : Nat → Nat → Int32) : ∀ n : Nat, ∃ m : Nat, m ≤ 36 * n ∧ tgN G n = nI m
  | 0 => ⟨0, by omega, rfl⟩
  | n + 1 => by
    obtain ⟨m, hm, e⟩ := tgN_n G n
    have := taN_le (G := tgG G n) (n := 36)
    refine ⟨m + taN (tgG G n) 36, by omega, ?_⟩
    show tgN G n + nI (taN (tgG G n) 36) = _
    rw [e, nI_add]
theorem stp_rest {N : Nat → Int32} (h : taN (gN N) 36 = 0) : stpN N = N := by
  funext i
  by_cases hi : 6 ≤ i ∧ i < 42
  · have k := cnI_0 36 h (i - 6) (by omega)
    have k : gT (gN N) (i - 6) = gN N 0 (i - 6) := by simpa using k
    obtain ⟨c, rfl⟩ : ∃ c, i = 6 + c := ⟨i - 6, by omega⟩
    rw [stpN_at (by omega)]
    rw [show 6 + c - 6 = c by omega] at k
    rw [k, gN0 (by omega)]
  · exact stpN_lo (by omega)
theorem it_rest {N : Nat → Int32} (h : taN (gN N) 36 = 0) : ∀ n : Nat, itN N n = N
  | 0 => rfl
  | n + 1 => by show stpN (itN N n) = N; rw [it_rest h n, stp_rest h]
theorem tgN_rest {N : Nat → Int32} (h : taN (gN N) 36 = 0) : ∀ n : Nat, tgN (gN N) n = 0
  | 0 => rfl
  | n + 1 => by
    show tgN (gN N) n + nI (taN (tgG (gN N) n) 36) = 0
    rw [tgN_rest h n, tg_gN, it_rest h n, h]
    rfl
theorem taN_3 {N : Nat → Int32} {v : Int32} {n : Nat} : taN (gN (upd N 3 v)) n = taN (gN N) n := by rw [← gN_steps, taN_8]
theorem fnd1_or {P : Nat → Bool} : ∀ n i : Nat, fnd1 P n i = -1 ∨ ∃ j, fnd1 P n i = nI j ∧ i ≤ j ∧ j < i + n ∧ P j = true
  | 0, _ => Or.inl rfl
  | n + 1, i => by
    simp only [fnd1]
    by_cases h : P i = true
    · rw [if_pos h]; exact Or.inr ⟨i, rfl, by omega, by omega, h⟩
    · rw [if_neg h]
      rcases fnd1_or (P := P) n (i + 1) with z | ⟨j, a, b, c, d⟩
      · exact Or.inl z
      · exact Or.inr ⟨j, a, by omega, by omega, d⟩
def rsI (N : Nat → Int32) : Int32 := fnd1 (rstP N) 101 0
def tuI (N : Nat → Int32) : Int32 := nI (taN (gN N) 36)
theorem tuI_0 {N : Nat → Int32} : tuI N = 0 ↔ taN (gN N) 36 = 0 := by
  have := taN_le (G := gN N) (n := 36)
  unfold tuI
  rw [← nI_0]
  exact nI_eq (by omega) (by omega)
theorem rsI_or (N : Nat → Int32) : (rsI N = -1 ∧ tuI N ≠ 0) ∨ ∃ j, j ≤ 100 ∧ rsI N = nI j ∧ taN (gN (itN N j)) 36 = 0 ∧ (j = 0 ↔ tuI N = 0) := by
  have h0 : rstP N 0 = decide (taN (gN N) 36 = 0) := rfl
  by_cases z : taN (gN N) 36 = 0
  · refine Or.inr ⟨0, by omega, ?_, z, fun _ => tuI_0.mpr z, fun _ => rfl⟩
    unfold rsI
    exact fnd1_yes (by omega) (by rw [h0]; exact decide_eq_true z)
  · have e : rsI N = fnd1 (rstP N) 100 1 := by
      unfold rsI
      exact fnd1_no (by omega) (by rw [h0]; exact decide_eq_false z)
    rcases fnd1_or (P := rstP N) 100 1 with y | ⟨j, a, b, c, d⟩
    · exact Or.inl ⟨e.trans y, fun q => z (tuI_0.mp q)⟩
    · refine Or.inr ⟨j, by omega, e.trans a, ?_, fun q => absurd q (by omega), fun q => absurd (tuI_0.mp q) z⟩
      unfold rstP at d
      simpa using d
/-- what the law says of the rest -/
theorem rsI_law (N : Nat → Int32) : ¬ rsI N < -1 ∧ ¬ 100 < rsI N ∧ (if rsI N = 0 then (1 : Int32) else 0) = (if tuI N = 0 then 1 else 0) := by
  rcases rsI_or N with ⟨a, b⟩ | ⟨j, a, b, c, d⟩
  · rw [a, if_neg (by decide), if_neg b]
    exact ⟨by decide, by decide, rfl⟩
  · rw [b]
    refine ⟨fun z => ?_, fun z => ?_, ?_⟩
    · rw [Int32.lt_iff_toInt_lt, nI_toInt (by omega)] at z
      have : (-1 : Int32).toInt = -1 := by decide
      omega
    · have := (nI_ltI (a := 100) (b := j) (by omega) (by omega)).mp z
      omega
    · by_cases z : j = 0
      · rw [if_pos (by rw [z]; rfl), if_pos (d.mp z)]
      · rw [if_neg (show ¬ nI j = 0 from fun q => z ((nI_eq (a := j) (b := 0) (by omega) (by omega)).mp q)), if_neg (fun q => z (d.mpr q))]
theorem rsI_pos {N : Nat → Int32} (h1 : ¬ rsI N ≤ 0) (h2 : ¬ 51 ≤ rsI N) : ∃ j, 1 ≤ j ∧ j ≤ 50 ∧ rsI N = nI j ∧ taN (gN (itN N j)) 36 = 0 := by
  rcases rsI_or N with ⟨a, b⟩ | ⟨j, a, b, c, d⟩
  · exact absurd (by rw [a]; decide) h1
  · rw [b] at h1 h2
    have k1 := mt (nI_leI (a := j) (b := 0) (by omega) (by omega)).mpr h1
    have k2 := mt (nI_leI (a := 51) (b := j) (by omega) (by omega)).mpr h2
    exact ⟨j, by omega, by omega, b, c⟩
theorem rest_then {N : Nat → Int32} {v : Int32} {j : Nat} (h : taN (gN (itN N j)) 36 = 0) : tuI (upd (itN N j) 3 v) = 0 ∧ rsI (upd (itN N j) 3 v) = 0 := by
  have e : taN (gN (upd (itN N j) 3 v)) 36 = 0 := taN_3.trans h
  refine ⟨tuI_0.mpr e, ?_⟩
  rcases rsI_or (upd (itN N j) 3 v) with ⟨a, b⟩ | ⟨i, a, b, c, d⟩
  · exact absurd (tuI_0.mpr e) b
  · rw [b, d.mpr (tuI_0.mpr e)]
    rfl
/-! the share of those that obey -/
theorem shr_01 : ∀ a : Fin 37, ∀ b : Fin 37, b.val < a.val ∨ b.val = 0 ∨ (¬ Op.cmpValue (FP.dcmp (shr a.val b.val) FP.dconst0) .l < 0 ∧ ¬ 0 < Op.cmpValue (FP.dcmp (shr a.val b.val) FP.dconst1) .g) := by decide +kernel
theorem one_01 : ¬ Op.cmpValue (FP.dcmp FP.dconst1 FP.dconst0) .l < 0 ∧ ¬ 0 < Op.cmpValue (FP.dcmp FP.dconst1 FP.dconst1) .g := by decide +kernel
theorem obV_01 {N : Nat → Int32} (h : okP N) : ¬ Op.cmpValue (FP.dcmp (obV N) FP.dconst0) .l < 0 ∧ ¬ 0 < Op.cmpValue (FP.dcmp (obV N) FP.dconst1) .g := by
  unfold obV
  by_cases z : aimC N = 0
  · rw [if_pos z]; exact one_01
  · rw [if_neg z]
    have h1 : obeC N ≤ aimC N := obe_aim fun k hk => by obtain ⟨d, hd⟩ := h.1.1.1 k hk; rw [hd]; exact nI_m1 d
    have h2 : aimC N ≤ 36 := cnI_le _ _
    rcases shr_01 ⟨obeC N, by omega⟩ ⟨aimC N, by omega⟩ with q | q | q
    · exact absurd q (by show ¬ aimC N < obeC N; omega)
    · exact absurd q z
    · exact q

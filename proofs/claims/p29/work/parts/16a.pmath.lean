/-! THE PROPERTY'S OWN MATHEMATICS: how large a field can be -/
def pmB (B : Nat) (x : Int32) : Prop := -(B : Int) ≤ x.toInt ∧ x.toInt ≤ (B : Int)
theorem pmB_add {a b : Nat} {x y : Int32} (hx : pmB a x) (hy : pmB b y) (h : a + b < 2 ^ 31) : pmB (a + b) (x + y) := by
  obtain ⟨h1, h2⟩ := hx
  obtain ⟨h3, h4⟩ := hy
  have e : (x + y).toInt = x.toInt + y.toInt := by
    rw [Int32.toInt_add]
    exact Int.bmod_eq_of_le (by omega) (by omega)
  unfold pmB
  rw [e]
  omega
theorem pm_neg {x : Int32} (h : -(2 ^ 31) < x.toInt) : (-x).toInt = -x.toInt := by
  rw [Int32.toInt_neg]
  have := Int32.toInt_lt x
  exact Int.bmod_eq_of_le (by omega) (by omega)
theorem pmB_neg {a : Nat} {x : Int32} (hx : pmB a x) (h : a < 2 ^ 31) : pmB a (-x) := by
  obtain ⟨h1, h2⟩ := hx
  unfold pmB
  rw [pm_neg (by omega)]
  omega
theorem pmB_le {a b : Nat} {x : Int32} (h : pmB a x) (hab : a ≤ b) : pmB b x := by
  obtain ⟨h1, h2⟩ := h
  unfold pmB
  omega
theorem pmB_n {n B : Nat} (h : n ≤ B) (hB : B < 2 ^ 31) : pmB B (nI n) := by
  unfold pmB
  rw [nI_toInt (by omega)]
  omega
theorem pmB_0 {B : Nat} : pmB B 0 := by
  unfold pmB
  rw [show (0 : Int32).toInt = 0 by decide]
  omega
theorem pmB_unit {B : Nat} {x d : Int32} (hx : pmB B x) (hB : B < 2 ^ 31) (hd : d = 0 ∨ d = 1 ∨ d = -1) : pmB B (x * d) := by
  rcases hd with h | h | h
  · rw [h, Int32.mul_zero]; exact pmB_0
  · rw [h, Int32.mul_one]; exact hx
  · rw [h, Int32.mul_neg, Int32.mul_one]; exact pmB_neg hx hB
theorem acr_3 (d : Int32) : acr d = 0 ∨ acr d = 1 ∨ acr d = -1 := by
  unfold acr tX
  split <;> simp
theorem dwn_3 (d : Int32) : dwn d = 0 ∨ dwn d = 1 ∨ dwn d = -1 := by
  unfold dwn tY
  split <;> simp
theorem pSq_n : ∀ k c : Fin 36, pSq (nI k.val) (nI c.val) = nI (pSq (nI k.val) (nI c.val)).toNatClampNeg ∧ (pSq (nI k.val) (nI c.val)).toNatClampNeg ≤ 50 := by decide +kernel
theorem pull_b {k c q : Nat} {d : Int32} (hk : k < 36) (hc : c < 36) (hq : q ≤ 50) : pmB 5000 (pull (nI k) d (nI q) (nI c)) := by
  obtain ⟨e, hm⟩ := pSq_n ⟨k, hk⟩ ⟨c, hc⟩
  replace e : pSq (nI k) (nI c) = nI (pSq (nI k) (nI c)).toNatClampNeg := e
  replace hm : (pSq (nI k) (nI c)).toNatClampNeg ≤ 50 := hm
  generalize (pSq (nI k) (nI c)).toNatClampNeg = m at e hm
  unfold pull
  rw [e]
  split
  · exact pmB_0
  · rename_i h0
    have m0 : 0 < m := Nat.pos_of_ne_zero (fun z => h0 (by rw [z]; rfl))
    have hs : nI q * 100 / nI m = nI (q * 100 / m) := by
      rw [show nI q * 100 = nI (q * 100) from pk_mul q 100]
      exact pk_div (by omega) m0 (by omega)
    have hle : q * 100 / m ≤ 5000 := Nat.le_trans (Nat.div_le_self _ _) (by omega)
    rw [hs]
    generalize q * 100 / m = v at hle
    split
    · rw [show nI v / 2 = nI (v / 2) from pk_div (d := 2) (by omega) (by omega) (by omega)]
      exact pmB_neg (pmB_n (by omega) (by omega)) (by omega)
    · exact pmB_n hle (by omega)
theorem smI_b {b : Int32} {f : Nat → Int32} {B c : Nat} (hb : pmB B b) : ∀ n : Nat, (∀ k, k < n → pmB c (f k)) → B + n * c < 2 ^ 31 → pmB (B + n * c) (smI b f n)
  | 0, _, _ => pmB_le hb (Nat.le_add_right _ _)
  | n + 1, h, hB => by
    have e : B + (n + 1) * c = (B + n * c) + c := by rw [Nat.succ_mul]; omega
    rw [e] at hB ⊢
    exact pmB_add (smI_b hb n (fun k hk => h k (by omega)) (by omega)) (h n (by omega)) hB
/-- what holds of every state that the calls can reach -/
def okP (N : Nat → Int32) : Prop := okN N ∧ (∃ q : Nat, q ≤ 200 ∧ N 0 = nI q) ∧ (∃ q : Nat, q ≤ 20 ∧ N 1 = nI q) ∧ (∃ q : Nat, q ≤ 50 ∧ N 2 = nI q) ∧ (∃ q : Nat, q ≤ 50 ∧ N 4 = nI q) ∧ (∀ c, c < 36 → ∃ q : Nat, q ≤ 999 ∧ N (42 + c) = nI q)
theorem bX_b {d t : Nat → Int32} {k c : Nat} (hk : k < 36) (hc : c < 36) (ht : ∃ q : Nat, q ≤ 50 ∧ t k = nI q) : pmB 5000 (bX d t k c) ∧ pmB 5000 (bY d t k c) := by
  obtain ⟨q, hq, e⟩ := ht
  unfold bX bY
  constructor
  · split
    · exact pmB_0
    · rw [e]; exact pmB_unit (pull_b hk hc hq) (by omega) (acr_3 _)
  · split
    · exact pmB_0
    · rw [e]; exact pmB_unit (pull_b hk hc hq) (by omega) (dwn_3 _)
theorem fld_b {N : Nat → Int32} (h : okP N) {c : Nat} (hc : c < 36) : pmB 183000 (gN N 11 c) ∧ pmB 183000 (gN N 12 c) := by
  obtain ⟨hO, ⟨q0, h0, e0⟩, ⟨q1, h1, e1⟩, ⟨q2, h2, e2⟩, ⟨q4, h4, e4⟩, -⟩ := h
  have hst : ∀ k, k < 36 → ∃ q : Nat, q ≤ 50 ∧ gB N 4 k = nI q := fun k hk => by
    obtain ⟨q, hq, e⟩ := hO.2.2.1 k hk
    exact ⟨q, hq, (mk_in (f := fun j => N (150 + j)) hk).trans e⟩
  have h52 : gB N 5 2 = nI q2 := (mk_in (f := N) (by omega)).trans e2
  have hm : q1 * q4 ≤ 1000 := Nat.mul_le_mul h1 h4
  have hb : pmB 1000 (N 1 * N 4) := by rw [e1, e4, pk_mul]; exact pmB_n hm (by omega)
  have hx : pmB 1200 (N 1 * N 4 * acr (N 5)) := pmB_le (pmB_unit hb (by omega) (acr_3 _)) (by omega)
  have hy : pmB 1200 (N 1 * N 4 * dwn (N 5) - N 0) := by
    rw [Int32.sub_eq_add_neg]
    exact pmB_add (a := 1000) (b := 200) (pmB_unit hb (by omega) (dwn_3 _)) (pmB_neg (by rw [e0]; exact pmB_n h0 (by omega)) (by omega)) (by omega)
  constructor
  · rw [gN11]
    refine pmB_le (smI_b (B := 1200 + 36 * 5000) (c := 50) (smI_b (c := 5000) hx 36 (fun k hk => (bX_b hk hc (hst k hk)).1) (by omega)) 36 (fun k hk => ?_) (by omega)) (by omega)
    split
    · rw [h52]; exact pmB_unit (pmB_n h2 (by omega)) (by omega) (acr_3 _)
    · exact pmB_0
  · rw [gN12]
    refine pmB_le (smI_b (B := 1200 + 36 * 5000) (c := 50) (smI_b (c := 5000) hy 36 (fun k hk => (bX_b hk hc (hst k hk)).2) (by omega)) 36 (fun k hk => ?_) (by omega)) (by omega)
    split
    · rw [h52]; exact pmB_unit (pmB_n h2 (by omega)) (by omega) (dwn_3 _)
    · exact pmB_0
theorem ab_b {x : Int32} {B : Nat} (h : pmB B x) (hB : B < 2 ^ 31) : ∃ n : Nat, n ≤ B ∧ ab x = nI n := by
  obtain ⟨h1, h2⟩ := h
  have z0 : (0 : Int32).toInt = 0 := by decide
  unfold ab
  split
  · rename_i hx
    rw [Int32.lt_iff_toInt_lt, z0] at hx
    refine ⟨(-x.toInt).toNat, by omega, Int32.toInt_inj.mp ?_⟩
    rw [pm_neg (by omega), nI_toInt (by omega)]
    omega
  · rename_i hx
    obtain ⟨j, hj, e⟩ := nI_of hx
    refine ⟨j, ?_, e⟩
    rw [e, nI_toInt hj] at h2
    omega
theorem aimO_8 (x y : Int32) : ∃ d : Fin 8, aimO x y = nI d.val := by
  unfold aimO
  (repeat' split)
  · exact ⟨5, rfl⟩
  · exact ⟨7, rfl⟩
  · exact ⟨3, rfl⟩
  · exact ⟨1, rfl⟩
  · exact ⟨6, rfl⟩
  · exact ⟨2, rfl⟩
  · exact ⟨4, rfl⟩
  · exact ⟨0, rfl⟩
theorem aimOf_8 (x y : Int32) : aimOf x y = -1 ∨ ∃ d : Fin 8, aimOf x y = nI d.val := by
  unfold aimOf
  split
  · split
    · exact Or.inl rfl
    · exact Or.inr (aimO_8 x y)
  · exact Or.inr (aimO_8 x y)
theorem nI_m1 : ∀ d : Fin 8, nI d.val ≠ -1 := by decide +kernel
/-- no aim, just if the field is none -/
theorem aim_no {x y : Int32} (hx : pmB 183000 x) (hy : pmB 183000 y) : aimOf x y = -1 ↔ ab x + ab y = 0 := by
  obtain ⟨n, hn, en⟩ := ab_b hx (by omega)
  obtain ⟨m, hm, em⟩ := ab_b hy (by omega)
  have k : ∀ q : Nat, q ≤ 366000 → (nI q = 0 ↔ q = 0) := fun q hq => by rw [← nI_0]; exact nI_eq (by omega) (by omega)
  obtain ⟨d, hd⟩ := aimO_8 x y
  unfold aimOf
  rw [en, em, nI_add, hd]
  have kk := k (n + m) (by omega)
  have kn := k n (by omega)
  have km := k m (by omega)
  by_cases z : n = 0
  · rw [if_pos (kn.mpr z)]
    by_cases z2 : m = 0
    · rw [if_pos (km.mpr z2)]; exact ⟨fun _ => kk.mpr (by omega), fun _ => rfl⟩
    · rw [if_neg (fun q => z2 (km.mp q))]; exact ⟨fun h => absurd h (nI_m1 d), fun h => absurd (kk.mp h) (by omega)⟩
  · rw [if_neg (fun q => z (kn.mp q))]; exact ⟨fun h => absurd h (nI_m1 d), fun h => absurd (kk.mp h) (by omega)⟩
/-! one cell, as it is looked at -/
theorem away_8 : ∀ d e : Fin 8, ∃ m : Fin 5, awayI (nI d.val) (nI e.val) = nI m.val ∧ (m.val = 0 ↔ e = d) := by decide +kernel
theorem away_m1 (d : Int32) : awayI d (-1) = -1 := by unfold awayI; rw [if_pos rfl]
theorem step_8 : ∀ d : Fin 8, (nI d.val + -1) &&& 7 ≠ nI d.val ∧ (nI d.val + 1) &&& 7 ≠ nI d.val := by decide +kernel
theorem step_in : ∀ d : Fin 8, (∃ e : Fin 8, (nI d.val + -1) &&& 7 = nI e.val) ∧ ∃ e : Fin 8, (nI d.val + 1) &&& 7 = nI e.val := by decide +kernel
theorem dAS_8 {h x y f : Int32} (d : Fin 8) : ∃ e : Fin 8, dAS h (nI d.val) x y f = nI e.val := by
  unfold dAS
  (repeat' split)
  · exact ⟨d, rfl⟩
  · exact ⟨d, rfl⟩
  · exact (step_in d).1
  · exact (step_in d).2
  · exact ⟨d, rfl⟩
  · exact ⟨d, rfl⟩
theorem dAS_ne {h x y f : Int32} (d : Fin 8) : dAS h (nI d.val) x y f ≠ nI d.val ↔ (h = 0 ∧ aimOf x y ≠ -1 ∧ aimOf x y ≠ nI d.val ∧ f < ab x + ab y) := by
  unfold dAS
  by_cases h0 : h = 0
  · rw [if_pos h0]
    by_cases h1 : aimOf x y = -1
    · rw [if_pos h1]; exact ⟨fun z => absurd rfl z, fun z => absurd h1 z.2.1⟩
    · rw [if_neg h1]
      by_cases h2 : aimOf x y = nI d.val
      · rw [if_pos h2]; exact ⟨fun z => absurd rfl z, fun z => absurd h2 z.2.2.1⟩
      · rw [if_neg h2]
        by_cases h3 : f < ab x + ab y
        · rw [if_pos h3]
          refine ⟨fun _ => ⟨h0, h1, h2, h3⟩, fun _ => ?_⟩
          split
          · exact (step_8 d).1
          · exact (step_8 d).2
        · rw [if_neg h3]; exact ⟨fun z => absurd rfl z, fun z => absurd z.2.2.2 h3⟩
  · rw [if_neg h0]; exact ⟨fun z => absurd rfl z, fun z => absurd z.1 h0⟩
/-- a needle would turn, as the law says it -/
def trnV (hd a w s f : Int32) : Int32 := if hd = 0 then (if a < 0 then 0 else if w ≤ 0 then 0 else if s ≤ f then 0 else 1) else 0
theorem n8_lt : ∀ d : Fin 8, ¬ nI d.val < 0 ∧ ¬ 7 < nI d.val := by decide +kernel
theorem n5_le : ∀ m : Fin 5, ¬ 4 < nI m.val ∧ nI m.val ≠ -1 ∧ (nI m.val = 0 ↔ m.val = 0) ∧ (nI m.val ≤ 0 ↔ m.val = 0) := by decide +kernel
theorem n8_eq : ∀ d e : Fin 8, nI e.val = nI d.val ↔ e = d := by decide +kernel
theorem le_gt {x y : Int32} (h : x ≤ y) : ¬ y < x := by
  rw [Int32.le_iff_toInt_le] at h
  rw [Int32.lt_iff_toInt_lt]
  omega
theorem nle_gt {x y : Int32} (h : ¬ x ≤ y) : y < x := by
  rw [Int32.le_iff_toInt_le] at h
  rw [Int32.lt_iff_toInt_lt]
  omega
def hlC (N : Nat → Int32) (i : Nat) : Int32 := nI (cnI (fun k => !decide (gN N 2 k = 0)) i)
def trC (N : Nat → Int32) (i : Nat) : Int32 := nI (cnI (fun k => !decide (gT (gN N) k = gN N 0 k)) i)
def obC (N : Nat → Int32) (i : Nat) : Int32 := nI (cnI (fun k => decide (gAim (gN N) k = gN N 0 k)) i)
def frC (N : Nat → Int32) (i : Nat) : Int32 := awS (gAw (gN N)) i
theorem nI_cn {P : Nat → Bool} {i : Nat} {v : Int32} (h : v = if P i = true then 1 else 0) : nI (cnI P i) + v = nI (cnI P (i + 1)) := by
  rw [h]
  cases hp : P i with
  | true => rw [if_pos rfl, cnI_t hp, nI_1]
  | false => rw [if_neg (by decide), cnI_f hp, Int32.add_zero]
theorem pm_cell {N : Nat → Int32} (h : okP N) {i : Nat} (hi : i < 36) {x8 x9 x10 : Int32} (e8 : x8 = cellA N i 5) (e9 : x9 = cellA N i 7) (e10 : x10 = ab (cellA N i 3 - 100000) + ab (cellA N i 4 - 100000)) :
    (if cellA N i 6 = 1 then (1 : Int32) else 0) = trnV (cellA N i 2) x8 x9 x10 (cellA N i 1)
    ∧ (if x8 = -1 then (1 : Int32) else 0) = (if x10 = 0 then 1 else 0)
    ∧ (if x8 = -1 then (1 : Int32) else 0) = (if x9 = -1 then 1 else 0)
    ∧ (if x9 = 0 then (1 : Int32) else 0) = (if x8 = cellA N i 0 then 1 else 0)
    ∧ ¬ 4 < x9 ∧ ¬ cellA N i 0 < 0 ∧ ¬ 7 < cellA N i 0
    ∧ hlC N i + cellA N i 2 = hlC N (i + 1) ∧ trC N i + cellA N i 6 = trC N (i + 1)
    ∧ obC N i + (if x9 = 0 then 1 else 0) = obC N (i + 1) ∧ frC N i + (if x9 ≤ 0 then 0 else x9) = frC N (i + 1) := by
  obtain ⟨d, hd⟩ := h.1.1.1 i hi
  have g0 : gN N 0 i = nI d.val := (gN0 hi).trans hd
  have c0 : cellA N i 0 = nI d.val := hd
  have c1 : cellA N i 1 = gN N 1 i := (gN1 hi).symm
  have c2 : cellA N i 2 = gN N 2 i := (gN2 hi).symm
  have a3 : cellA N i 3 - 100000 = gN N 11 i := Int32.add_sub_cancel _ _
  have a4 : cellA N i 4 - 100000 = gN N 12 i := Int32.add_sub_cancel _ _
  have c6 : cellA N i 6 = if gT (gN N) i = gN N 0 i then 0 else 1 := rfl
  have t : gT (gN N) i = dAS (gN N 2 i) (nI d.val) (gN N 11 i) (gN N 12 i) (gN N 1 i) := by unfold gT; rw [g0]
  have e8 : x8 = aimOf (gN N 11 i) (gN N 12 i) := e8
  have e9 : x9 = awayI (nI d.val) x8 := by rw [e9, e8, ← g0]; rfl
  rw [a3, a4] at e10
  have hn : x8 = -1 ↔ x10 = 0 := by rw [e8, e10]; exact aim_no (fld_b h hi).1 (fld_b h hi).2
  have hne := dAS_ne (h := gN N 2 i) (x := gN N 11 i) (y := gN N 12 i) (f := gN N 1 i) d
  rw [← t, ← e8, ← e10] at hne
  have hhl : hlC N i + cellA N i 2 = hlC N (i + 1) := by
    refine nI_cn ?_
    rw [c2]
    rcases okH.g h.1.2.1 i hi with z | z
    · rw [z]; decide
    · rw [z]; decide
  have htr : trC N i + cellA N i 6 = trC N (i + 1) := by
    refine nI_cn ?_
    rw [c6]
    by_cases z : gT (gN N) i = gN N 0 i
    · rw [if_pos z, decide_eq_true z, if_neg (by decide)]
    · rw [if_neg z, decide_eq_false z, if_pos (by decide)]
  have hga : gAim (gN N) i = x8 := e8.symm
  have hgw : gAw (gN N) i = x9 := by rw [e9, ← g0]; show awayI (gN N 0 i) (gAim (gN N) i) = _; rw [hga]
  rw [c6, c0, c1, c2, g0]
  rcases (aimOf_8 (gN N 11 i) (gN N 12 i)) with z | ⟨e, z⟩
  · have k8 : x8 = -1 := e8.trans z
    have k9 : x9 = -1 := by rw [e9, k8, away_m1]
    have k10 : x10 = 0 := hn.mp k8
    have kt : gT (gN N) i = nI d.val := Classical.byContradiction fun q => (hne.mp q).2.1 k8
    refine ⟨?_, by rw [if_pos k8, if_pos k10], by rw [if_pos k8, if_pos k9], ?_, by rw [k9]; decide, (n8_lt d).1, (n8_lt d).2, by rw [← c2]; exact hhl, by rw [← g0, ← c6]; exact htr, ?_, ?_⟩
    · rw [if_pos kt, if_neg (by decide)]
      unfold trnV
      by_cases q0 : gN N 2 i = 0
      · rw [if_pos q0, if_pos (show x8 < 0 by rw [k8]; decide)]
      · rw [if_neg q0]
    · rw [k9, k8, if_neg (by decide), if_neg (fun q => nI_m1 d q.symm)]
    · refine nI_cn ?_
      rw [hga, g0, k8, k9, if_neg (by decide), decide_eq_false (fun q => nI_m1 d q.symm), if_neg (by decide)]
    · show awS (gAw (gN N)) i + _ = awS (gAw (gN N)) (i + 1)
      rw [k9, if_pos (by decide), awS_f (hgw.trans k9), Int32.add_zero]
  · have k8 : x8 = nI e.val := e8.trans z
    obtain ⟨m, hm, hm0⟩ := away_8 d e
    have k9 : x9 = nI m.val := by rw [e9, k8, hm]
    have n8 : ¬ x8 = -1 := by rw [k8]; exact nI_m1 e
    have n10 : ¬ x10 = 0 := fun q => n8 (hn.mpr q)
    obtain ⟨b1, b2, b3, b4⟩ := n5_le m
    have s89 : x8 = nI d.val ↔ m.val = 0 := by rw [k8, n8_eq, hm0]
    refine ⟨?_, by rw [if_neg n8, if_neg n10], by rw [if_neg n8, if_neg (by rw [k9]; exact b2)], ?_, by rw [k9]; exact b1, (n8_lt d).1, (n8_lt d).2, by rw [← c2]; exact hhl, by rw [← g0, ← c6]; exact htr, ?_, ?_⟩
    · unfold trnV
      have l8 : ¬ x8 < 0 := by rw [k8]; exact (n8_lt e).1
      by_cases q0 : gN N 2 i = 0
      · rw [if_pos q0, if_neg l8]
        by_cases q1 : m.val = 0
        · rw [if_pos (show x9 ≤ 0 by rw [k9]; exact b4.mpr q1), if_pos (Classical.byContradiction fun q => (hne.mp q).2.2.1 (s89.mpr q1)), if_neg (by decide)]
        · rw [if_neg (show ¬ x9 ≤ 0 by rw [k9]; exact fun q => q1 (b4.mp q))]
          by_cases q2 : x10 ≤ gN N 1 i
          · rw [if_pos q2, if_pos (Classical.byContradiction fun q => le_gt q2 (hne.mp q).2.2.2), if_neg (by decide)]
          · rw [if_neg q2, if_neg (hne.mpr ⟨q0, n8, fun q => q1 (s89.mp q), nle_gt q2⟩), if_pos rfl]
      · rw [if_neg q0, if_pos (Classical.byContradiction fun q => q0 (hne.mp q).1), if_neg (by decide)]
    · by_cases q1 : m.val = 0
      · rw [if_pos (s89.mpr q1), if_pos (show x9 = 0 by rw [k9]; exact b3.mpr q1)]
      · rw [if_neg (fun q => q1 (s89.mp q)), if_neg (show ¬ x9 = 0 by rw [k9]; exact fun q => q1 (b3.mp q))]
    · refine nI_cn ?_
      rw [hga, g0]
      by_cases q1 : m.val = 0
      · rw [if_pos (show x9 = 0 by rw [k9]; exact b3.mpr q1), decide_eq_true (s89.mpr q1), if_pos rfl]
      · rw [if_neg (show ¬ x9 = 0 by rw [k9]; exact fun q => q1 (b3.mp q)), decide_eq_false (fun q => q1 (s89.mp q)), if_neg (by decide)]
    · show awS (gAw (gN N)) i + _ = awS (gAw (gN N)) (i + 1)
      rw [awS_t (by rw [hgw, k9]; exact b2), hgw]
      by_cases q1 : m.val = 0
      · rw [if_pos (show x9 ≤ 0 by rw [k9]; exact b4.mpr q1), show x9 = 0 by rw [k9]; exact b3.mpr q1]
      · rw [if_neg (show ¬ x9 ≤ 0 by rw [k9]; exact fun q => q1 (b4.mp q))]

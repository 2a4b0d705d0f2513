/-! texts: the reference's reading, tied to the class's reader -/
def okC (C : Nat → Int32) (n : Nat) : Prop := ∀ j, j < n → ∃ m : Fin 127, 33 ≤ m.val ∧ C j = nI m.val
theorem e0 : ∀ m : Fin 127, inI (nI m.val) 48 53 = if nI m.val - 48 < 0 then 0 else if 6 ≤ nI m.val - 48 then 0 else 1 := by decide +kernel
theorem e2 : ∀ m : Fin 127, inI (nI m.val) 97 104 = if nI m.val - 97 < 0 then 0 else if 8 ≤ nI m.val - 97 then 0 else 1 := by decide +kernel
theorem e3 : ∀ m : Fin 127, inI (nI m.val) 49 57 = if nI m.val - 48 < 1 then 0 else if 9 < nI m.val - 48 then 0 else 1 := by decide +kernel
theorem n0 : ∀ m : Fin 127, inI (nI m.val) 48 53 ≠ 0 → ∃ a : Fin 6, m.val = 48 + a.val := by decide +kernel
theorem n2 : ∀ m : Fin 127, inI (nI m.val) 97 104 ≠ 0 → ∃ a : Fin 8, m.val = 97 + a.val := by decide +kernel
theorem n3 : ∀ m : Fin 127, inI (nI m.val) 49 57 ≠ 0 → ∃ a : Fin 9, m.val = 49 + a.val := by decide +kernel
theorem n4 : ∀ m : Fin 127, inI (nI m.val) 48 57 ≠ 0 → ∃ a : Fin 10, m.val = 48 + a.val := by decide +kernel
theorem n4f : ∀ m : Fin 127, inI (nI m.val) 48 57 = 0 → nI m.val - 48 < 0 ∨ 9 < nI m.val - 48 := by decide +kernel
theorem n59 : ∀ m : Fin 127, inI (nI m.val) 59 59 ≠ 0 ↔ nI m.val = 59 := by decide +kernel
/-- what isAt answers -/
def atV (C : Nat → Int32) (n p : Nat) (lo hi : Int32) : Int32 := if n ≤ p then 0 else inI (C p) lo hi
theorem atV_y {C : Nat → Int32} {n p : Nat} {lo hi r : Int32} (hr : r = atV C n p lo hi) (c : ¬ r = 0) : p < n ∧ inI (C p) lo hi ≠ 0 := by
  unfold atV at hr
  by_cases z : n ≤ p
  · rw [if_pos z] at hr; exact absurd hr c
  · rw [if_neg z] at hr; exact ⟨by omega, fun q => c (hr.trans q)⟩
theorem atV_n {C : Nat → Int32} {n p : Nat} {lo hi r : Int32} (hr : r = atV C n p lo hi) (c : r = 0) : p < n → inI (C p) lo hi = 0 := fun h => by
  unfold atV at hr
  rw [if_neg (by omega)] at hr
  exact hr.symm.trans c
def stF (p n : Nat) : Int32 := if n ≤ p then 0 else 1
theorem tB0 {R : Nat → Int32} {m : Fin 127} (h : R 0 = 0) : takeB R (nI m.val) = inI (nI m.val) 48 53 := by
  unfold takeB; rw [if_pos h, e0]
theorem tB1 {R : Nat → Int32} {m : Fin 127} (h : R 0 = 1) : takeB R (nI m.val) = inI (nI m.val) 48 53 := by
  unfold takeB; rw [if_neg (by rw [h]; decide), if_pos h, e0]
theorem tB2 {R : Nat → Int32} {m : Fin 127} (h : R 0 = 2) : takeB R (nI m.val) = inI (nI m.val) 97 104 := by
  unfold takeB; rw [if_neg (by rw [h]; decide), if_neg (by rw [h]; decide), if_pos h, e2]
theorem tB3 {R : Nat → Int32} {m : Fin 127} (h : R 0 = 3) : takeB R (nI m.val) = inI (nI m.val) 49 57 := by
  unfold takeB; rw [if_neg (by rw [h]; decide), if_neg (by rw [h]; decide), if_neg (by rw [h]; decide), if_pos h, e3]
theorem tB4 {R : Nat → Int32} {x : Int32} (h : R 0 = 4) : takeB R x = if x = 59 then (if 6 < R 1 + 1 then 0 else 1) else (if x - 48 < 0 then 0 else if 9 < x - 48 then 0 else if 50 < 10 * R 5 + (x - 48) then 0 else 1) := by
  unfold takeB; rw [if_neg (by rw [h]; decide), if_neg (by rw [h]; decide), if_neg (by rw [h]; decide), if_neg (by rw [h]; decide)]
/-- the reader has taken a column, .. -/
def rd1 (R : Nat → Int32) (k : Int32) (a : Nat) : Prop := R 0 = 1 ∧ R 1 = k ∧ R 2 = nI a
def rd2 (R : Nat → Int32) (k : Int32) (a c : Nat) : Prop := R 0 = 2 ∧ R 1 = k ∧ R 2 = nI a ∧ R 3 = nI c
def rd3 (R : Nat → Int32) (k : Int32) (a c d : Nat) : Prop := R 0 = 3 ∧ R 1 = k ∧ R 2 = nI a ∧ R 3 = nI c ∧ R 4 = nI d
def rd4 (R : Nat → Int32) (k : Int32) (a c d s : Nat) : Prop := R 0 = 4 ∧ R 1 = k ∧ R 2 = nI a ∧ R 3 = nI c ∧ R 4 = nI d ∧ R 5 = nI s
theorem sub48 {a : Nat} : nI (48 + a) - 48 = nI a := by rw [nI_subL (N := 48) (n := 48) rfl (by omega), show 48 + a - 48 = a by omega]
theorem sub97 {a : Nat} : nI (97 + a) - 97 = nI a := by rw [nI_subL (N := 97) (n := 97) rfl (by omega), show 97 + a - 97 = a by omega]
theorem sub49 {a : Nat} : nI (49 + a) - 48 = nI (a + 1) := by rw [nI_subL (N := 48) (n := 48) rfl (by omega), show 49 + a - 48 = a + 1 by omega]
theorem tR0 {R : Nat → Int32} {x : Int32} {a : Nat} (h : R 0 = 0) (hx : x = nI (48 + a)) : rd1 (takeR R x) (R 1) a := by
  unfold takeR; rw [if_pos h, hx, sub48]; exact ⟨rfl, rfl, rfl⟩
theorem tR1 {R : Nat → Int32} {x k : Int32} {a c : Nat} (h : rd1 R k a) (hx : x = nI (48 + c)) : rd2 (takeR R x) k a c := by
  obtain ⟨h0, h1, h2⟩ := h
  unfold takeR; rw [if_neg (by rw [h0]; decide), if_pos h0, hx, sub48]; exact ⟨rfl, h1, h2, rfl⟩
theorem tR2 {R : Nat → Int32} {x k : Int32} {a c d : Nat} (h : rd2 R k a c) (hx : x = nI (97 + d)) : rd3 (takeR R x) k a c d := by
  obtain ⟨h0, h1, h2, h3⟩ := h
  unfold takeR; rw [if_neg (by rw [h0]; decide), if_neg (by rw [h0]; decide), if_pos h0, hx, sub97]; exact ⟨rfl, h1, h2, h3, rfl⟩
theorem tR3 {R : Nat → Int32} {x k : Int32} {a c d s : Nat} (h : rd3 R k a c d) (hx : x = nI (49 + s)) : rd4 (takeR R x) k a c d (s + 1) := by
  obtain ⟨h0, h1, h2, h3, h4⟩ := h
  unfold takeR; rw [if_neg (by rw [h0]; decide), if_neg (by rw [h0]; decide), if_neg (by rw [h0]; decide), if_pos h0, hx, sub49]; exact ⟨rfl, h1, h2, h3, h4, rfl⟩
theorem tR4 {R : Nat → Int32} {x k : Int32} {a c d s z : Nat} (h : rd4 R k a c d s) (hx : x = nI (48 + z)) (hz : z < 10) : rd4 (takeR R x) k a c d (10 * s + z) := by
  obtain ⟨h0, h1, h2, h3, h4, h5⟩ := h
  have n : ¬ x = 59 := by rw [hx]; intro q; have := (nI_eq (a := 48 + z) (b := 59) (by omega) (by omega)).mp q; omega
  unfold takeR; rw [if_neg (by rw [h0]; decide), if_neg (by rw [h0]; decide), if_neg (by rw [h0]; decide), if_neg (by rw [h0]; decide), if_neg n, hx, sub48]
  refine ⟨rfl, h1, h2, h3, h4, ?_⟩
  show 10 * R 5 + nI z = _
  rw [h5, show (10 : Int32) * nI s = nI (10 * s) from pk_mul 10 s, nI_add]
/-- where the text fails in a part -/
def prtB (C : Nat → Int32) (n p q : Nat) : Prop := p ≤ q ∧ q ≤ n ∧ (∀ j, p ≤ j → j < q → takeB (rdS r00 C j) (C j) ≠ 0) ∧ (q < n → takeB (rdS r00 C q) (C q) = 0) ∧ rdS r00 C q 0 ≠ 4
/-- a part that is read up to q: a bar in the cell c -/
def prtY (C : Nat → Int32) (n p q c d s : Nat) : Prop := p < q ∧ q ≤ n ∧ (∀ j, p ≤ j → j < q → takeB (rdS r00 C j) (C j) ≠ 0 ∧ ¬ C j = 59) ∧ (rdS r00 C q 0 = 4 ∧ rdS r00 C q 1 = rdS r00 C p 1 ∧ rdS r00 C q 3 * 6 + rdS r00 C q 2 = nI c ∧ rdS r00 C q 4 = nI d ∧ rdS r00 C q 5 = nI s) ∧ (c < 36 ∧ d < 8 ∧ 1 ≤ s ∧ s ≤ 50) ∧ (q < n → ¬ C q = 59 → takeB (rdS r00 C q) (C q) = 0)
theorem c59_0 {a : Nat} (h : a < 6) : ¬ nI (48 + a) = 59 := fun q => by have := (nI_eq (a := 48 + a) (b := 59) (by omega) (by omega)).mp q; omega
theorem c59_2 {a : Nat} (h : a < 8) : ¬ nI (97 + a) = 59 := fun q => by have := (nI_eq (a := 97 + a) (b := 59) (by omega) (by omega)).mp q; omega
theorem c59_3 {a : Nat} (h : a < 9) : ¬ nI (49 + a) = 59 := fun q => by have := (nI_eq (a := 49 + a) (b := 59) (by omega) (by omega)).mp q; omega
theorem c59_4 {a : Nat} (h : a < 10) : ¬ nI (48 + a) = 59 := fun q => by have := (nI_eq (a := 48 + a) (b := 59) (by omega) (by omega)).mp q; omega
/-- the places of a part, one by one -/
theorem at0 {C : Nat → Int32} {n p : Nat} (hC : okC C n) (h : p < n ∧ inI (C p) 48 53 ≠ 0) (hR : rdS r00 C p 0 = 0 ∨ rdS r00 C p 0 = 1) : ∃ a, a < 6 ∧ C p = nI (48 + a) ∧ takeB (rdS r00 C p) (C p) ≠ 0 := by
  obtain ⟨m, _, hm⟩ := hC p h.1
  have i := h.2
  rw [hm] at i
  obtain ⟨a, ha⟩ := n0 m i
  refine ⟨a.val, a.isLt, by rw [hm, ha], ?_⟩
  rw [hm]
  rcases hR with z | z
  · rw [tB0 z]; exact i
  · rw [tB1 z]; exact i
theorem at2 {C : Nat → Int32} {n p : Nat} (hC : okC C n) (h : p < n ∧ inI (C p) 97 104 ≠ 0) (hR : rdS r00 C p 0 = 2) : ∃ a, a < 8 ∧ C p = nI (97 + a) ∧ takeB (rdS r00 C p) (C p) ≠ 0 := by
  obtain ⟨m, _, hm⟩ := hC p h.1
  have i := h.2
  rw [hm] at i
  obtain ⟨a, ha⟩ := n2 m i
  refine ⟨a.val, a.isLt, by rw [hm, ha], ?_⟩
  rw [hm, tB2 hR]; exact i
theorem at3 {C : Nat → Int32} {n p : Nat} (hC : okC C n) (h : p < n ∧ inI (C p) 49 57 ≠ 0) (hR : rdS r00 C p 0 = 3) : ∃ a, a < 9 ∧ C p = nI (49 + a) ∧ takeB (rdS r00 C p) (C p) ≠ 0 := by
  obtain ⟨m, _, hm⟩ := hC p h.1
  have i := h.2
  rw [hm] at i
  obtain ⟨a, ha⟩ := n3 m i
  refine ⟨a.val, a.isLt, by rw [hm, ha], ?_⟩
  rw [hm, tB3 hR]; exact i
theorem no0 {C : Nat → Int32} {n p : Nat} (hC : okC C n) (h : p < n → inI (C p) 48 53 = 0) (hR : rdS r00 C p 0 = 0 ∨ rdS r00 C p 0 = 1) : p < n → takeB (rdS r00 C p) (C p) = 0 := fun hp => by
  obtain ⟨m, _, hm⟩ := hC p hp
  have i := h hp
  rw [hm] at i ⊢
  rcases hR with z | z
  · rw [tB0 z]; exact i
  · rw [tB1 z]; exact i
theorem no2 {C : Nat → Int32} {n p : Nat} (hC : okC C n) (h : p < n → inI (C p) 97 104 = 0) (hR : rdS r00 C p 0 = 2) : p < n → takeB (rdS r00 C p) (C p) = 0 := fun hp => by
  obtain ⟨m, _, hm⟩ := hC p hp
  have i := h hp
  rw [hm] at i ⊢
  rw [tB2 hR]; exact i
theorem no3 {C : Nat → Int32} {n p : Nat} (hC : okC C n) (h : p < n → inI (C p) 49 57 = 0) (hR : rdS r00 C p 0 = 3) : p < n → takeB (rdS r00 C p) (C p) = 0 := fun hp => by
  obtain ⟨m, _, hm⟩ := hC p hp
  have i := h hp
  rw [hm] at i ⊢
  rw [tB3 hR]; exact i
theorem bad0 {C : Nat → Int32} {n p : Nat} (hp : p ≤ n) (hR : rdS r00 C p 0 = 0) (hb : p < n → takeB (rdS r00 C p) (C p) = 0) : prtB C n p p := ⟨Nat.le_refl _, hp, fun j h1 h2 => absurd h2 (by omega), hb, by rw [hR]; decide⟩
theorem bad1 {C : Nat → Int32} {n p : Nat} (hp : p < n) (g0 : takeB (rdS r00 C p) (C p) ≠ 0) (hR : rdS r00 C (p + 1) 0 = 1) (hb : p + 1 < n → takeB (rdS r00 C (p + 1)) (C (p + 1)) = 0) : prtB C n p (p + 1) :=
  ⟨by omega, hp, fun j h1 h2 => by rw [show j = p by omega]; exact g0, hb, by rw [hR]; decide⟩
theorem bad2 {C : Nat → Int32} {n p : Nat} (hp : p + 1 < n) (g0 : takeB (rdS r00 C p) (C p) ≠ 0) (g1 : takeB (rdS r00 C (p + 1)) (C (p + 1)) ≠ 0) (hR : rdS r00 C (p + 1 + 1) 0 = 2) (hb : p + 1 + 1 < n → takeB (rdS r00 C (p + 1 + 1)) (C (p + 1 + 1)) = 0) : prtB C n p (p + 1 + 1) :=
  ⟨by omega, hp, fun j h1 h2 => by
    rcases (show j = p ∨ j = p + 1 by omega) with rfl | rfl
    · exact g0
    · exact g1, hb, by rw [hR]; decide⟩
theorem bad3 {C : Nat → Int32} {n p : Nat} (hp : p + 1 + 1 < n) (g0 : takeB (rdS r00 C p) (C p) ≠ 0) (g1 : takeB (rdS r00 C (p + 1)) (C (p + 1)) ≠ 0) (g2 : takeB (rdS r00 C (p + 1 + 1)) (C (p + 1 + 1)) ≠ 0) (hR : rdS r00 C (p + 1 + 1 + 1) 0 = 3) (hb : p + 1 + 1 + 1 < n → takeB (rdS r00 C (p + 1 + 1 + 1)) (C (p + 1 + 1 + 1)) = 0) : prtB C n p (p + 1 + 1 + 1) :=
  ⟨by omega, hp, fun j h1 h2 => by
    rcases (show j = p ∨ j = p + 1 ∨ j = p + 1 + 1 by omega) with rfl | rfl | rfl
    · exact g0
    · exact g1
    · exact g2, hb, by rw [hR]; decide⟩
theorem cell_n {a c : Nat} : nI c * 6 + nI a = nI (a + 6 * c) := by
  rw [show nI c * (6 : Int32) = nI (c * 6) from pk_mul c 6, nI_add, show c * 6 + a = a + 6 * c by omega]
/-- four characters are read, and no more -/
theorem yes4 {C : Nat → Int32} {n p a c d s : Nat} {k : Int32} (hk : rdS r00 C p 1 = k) (hp : p + 1 + 1 + 1 < n) (ha : a < 6) (hc : c < 6) (hd : d < 8) (hs : s < 9) (x0 : C p = nI (48 + a)) (x1 : C (p + 1) = nI (48 + c)) (x2 : C (p + 1 + 1) = nI (97 + d)) (x3 : C (p + 1 + 1 + 1) = nI (49 + s))
    (g0 : takeB (rdS r00 C p) (C p) ≠ 0) (g1 : takeB (rdS r00 C (p + 1)) (C (p + 1)) ≠ 0) (g2 : takeB (rdS r00 C (p + 1 + 1)) (C (p + 1 + 1)) ≠ 0) (g3 : takeB (rdS r00 C (p + 1 + 1 + 1)) (C (p + 1 + 1 + 1)) ≠ 0)
    (hR : rd4 (rdS r00 C (p + 1 + 1 + 1 + 1)) k a c d (s + 1)) (hb : p + 1 + 1 + 1 + 1 < n → ¬ C (p + 1 + 1 + 1 + 1) = 59 → takeB (rdS r00 C (p + 1 + 1 + 1 + 1)) (C (p + 1 + 1 + 1 + 1)) = 0) : prtY C n p (p + 1 + 1 + 1 + 1) (a + 6 * c) d (s + 1) := by
  obtain ⟨r0, r1, r2, r3, r4, r5⟩ := hR
  refine ⟨by omega, hp, fun j h1 h2 => ?_, ⟨r0, r1.trans hk.symm, by rw [r3, r2, cell_n], r4, r5⟩, by omega, hb⟩
  rcases (show j = p ∨ j = p + 1 ∨ j = p + 1 + 1 ∨ j = p + 1 + 1 + 1 by omega) with rfl | rfl | rfl | rfl
  · exact ⟨g0, by rw [x0]; exact c59_0 ha⟩
  · exact ⟨g1, by rw [x1]; exact c59_0 hc⟩
  · exact ⟨g2, by rw [x2]; exact c59_2 hd⟩
  · exact ⟨g3, by rw [x3]; exact c59_3 hs⟩
theorem no4 {C : Nat → Int32} {n q : Nat} (hC : okC C n) (hR : rdS r00 C q 0 = 4) (h : q < n → inI (C q) 48 57 = 0) : q < n → ¬ C q = 59 → takeB (rdS r00 C q) (C q) = 0 := fun hq h9 => by
  obtain ⟨m, _, hm⟩ := hC q hq
  have i := h hq
  rw [hm] at i
  rw [tB4 hR, if_neg h9, hm]
  rcases n4f m i with z | z
  · rw [if_pos z]
  · by_cases y : nI m.val - 48 < 0
    · rw [if_pos y]
    · rw [if_neg y, if_pos z]
theorem big4 {C : Nat → Int32} {q s z : Nat} {k : Int32} {a c d : Nat} (hR : rd4 (rdS r00 C q) k a c d s) (hz : z < 10) (hs : s ≤ 9) (x : C q = nI (48 + z)) (h : 50 < 10 * s + z) : takeB (rdS r00 C q) (C q) = 0 := by
  rw [tB4 hR.1, if_neg (by rw [x]; exact c59_4 hz), x, sub48, hR.2.2.2.2.2, show (10 : Int32) * nI s = nI (10 * s) from pk_mul 10 s, nI_add, if_neg (nI_pos (by omega)), if_neg (by intro y; have := (nI_ltI (a := 9) (b := z) (by omega) (by omega)).mp y; omega), if_pos (show (50 : Int32) < nI (10 * s + z) from (nI_ltI (a := 50) (by omega) (by omega)).mpr h)]
theorem good4 {C : Nat → Int32} {q s z : Nat} {k : Int32} {a c d : Nat} (hR : rd4 (rdS r00 C q) k a c d s) (hz : z < 10) (hs : s ≤ 9) (x : C q = nI (48 + z)) (h : 10 * s + z ≤ 50) : takeB (rdS r00 C q) (C q) ≠ 0 := by
  rw [tB4 hR.1, if_neg (by rw [x]; exact c59_4 hz), x, sub48, hR.2.2.2.2.2, show (10 : Int32) * nI s = nI (10 * s) from pk_mul 10 s, nI_add, if_neg (nI_pos (by omega)), if_neg (by intro y; have := (nI_ltI (a := 9) (b := z) (by omega) (by omega)).mp y; omega), if_neg (by intro y; have := (nI_ltI (a := 50) (by omega) (by omega)).mp y; omega)]
  decide
/-- behind two digits there is no third -/
theorem ten4 {C : Nat → Int32} {n q s : Nat} {k : Int32} {a c d : Nat} (hC : okC C n) (hR : rd4 (rdS r00 C q) k a c d s) (h1 : 10 ≤ s) (h2 : s ≤ 50) : q < n → ¬ C q = 59 → takeB (rdS r00 C q) (C q) = 0 := fun hq h9 => by
  obtain ⟨m, _, hm⟩ := hC q hq
  by_cases y : inI (C q) 48 57 = 0
  · exact no4 hC hR.1 (fun _ => y) hq h9
  · rw [hm] at y
    obtain ⟨z, hz⟩ := n4 m y
    have x : C q = nI (48 + z.val) := by rw [hm, hz]
    have hzl := z.isLt
    rw [tB4 hR.1, if_neg h9, x, sub48, hR.2.2.2.2.2, show (10 : Int32) * nI s = nI (10 * s) from pk_mul 10 s, nI_add, if_neg (nI_pos (by omega)), if_neg (by intro y; have := (nI_ltI (a := 9) (b := z.val) (by omega) (by omega)).mp y; omega), if_pos (show (50 : Int32) < nI (10 * s + z.val) from (nI_ltI (a := 50) (by omega) (by omega)).mpr (by omega))]
theorem at4 {C : Nat → Int32} {n p : Nat} (hC : okC C n) (h : p < n ∧ inI (C p) 48 57 ≠ 0) : ∃ a, a < 10 ∧ C p = nI (48 + a) := by
  obtain ⟨m, _, hm⟩ := hC p h.1
  have i := h.2
  rw [hm] at i
  obtain ⟨a, ha⟩ := n4 m i
  exact ⟨a.val, a.isLt, by rw [hm, ha]⟩
theorem yes5 {C : Nat → Int32} {n p a c d s z : Nat} {k : Int32} (hk : rdS r00 C p 1 = k) (hC : okC C n) (hp : p + 1 + 1 + 1 + 1 < n) (ha : a < 6) (hc : c < 6) (hd : d < 8) (hs : s < 9) (hz : z < 10) (hsz : 10 * (s + 1) + z ≤ 50) (x0 : C p = nI (48 + a)) (x1 : C (p + 1) = nI (48 + c)) (x2 : C (p + 1 + 1) = nI (97 + d)) (x3 : C (p + 1 + 1 + 1) = nI (49 + s)) (x4 : C (p + 1 + 1 + 1 + 1) = nI (48 + z))
    (g0 : takeB (rdS r00 C p) (C p) ≠ 0) (g1 : takeB (rdS r00 C (p + 1)) (C (p + 1)) ≠ 0) (g2 : takeB (rdS r00 C (p + 1 + 1)) (C (p + 1 + 1)) ≠ 0) (g3 : takeB (rdS r00 C (p + 1 + 1 + 1)) (C (p + 1 + 1 + 1)) ≠ 0)
    (hR : rd4 (rdS r00 C (p + 1 + 1 + 1 + 1)) k a c d (s + 1)) : prtY C n p (p + 1 + 1 + 1 + 1 + 1) (a + 6 * c) d (10 * (s + 1) + z) := by
  have hR5 : rd4 (rdS r00 C (p + 1 + 1 + 1 + 1 + 1)) k a c d (10 * (s + 1) + z) := tR4 hR x4 hz
  have g4 := good4 hR hz (by omega) x4 hsz
  have hb := ten4 hC hR5 (by omega) hsz
  obtain ⟨r0, r1, r2, r3, r4, r5⟩ := hR5
  refine ⟨by omega, hp, fun j h1 h2 => ?_, ⟨r0, r1.trans hk.symm, by rw [r3, r2, cell_n], r4, r5⟩, by omega, hb⟩
  rcases (show j = p ∨ j = p + 1 ∨ j = p + 1 + 1 ∨ j = p + 1 + 1 + 1 ∨ j = p + 1 + 1 + 1 + 1 by omega) with rfl | rfl | rfl | rfl | rfl
  · exact ⟨g0, by rw [x0]; exact c59_0 ha⟩
  · exact ⟨g1, by rw [x1]; exact c59_0 hc⟩
  · exact ⟨g2, by rw [x2]; exact c59_2 hd⟩
  · exact ⟨g3, by rw [x3]; exact c59_3 hs⟩
  · exact ⟨g4, by rw [x4]; exact c59_4 hz⟩

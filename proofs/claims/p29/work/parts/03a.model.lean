/-! THE MATHEMATICAL VALUE that both sides are tied to -/
def rm6 (x : Int32) : Int32 := x - x / 6 * 6
def acr (d : Int32) : Int32 := tX (d &&& 7).toNatClampNeg
def dwn (d : Int32) : Int32 := tY (d &&& 7).toNatClampNeg
def ab (x : Int32) : Int32 := if x < 0 then -x else x
/-- the direction of a field -/
def aimO (x y : Int32) : Int32 :=
  if 5 * ab x < 12 * ab y then
    (if 5 * ab y < 12 * ab x then (if y ≤ 0 then (if x ≤ 0 then 5 else 7) else (if x ≤ 0 then 3 else 1))
     else (if y ≤ 0 then 6 else 2))
  else (if x ≤ 0 then 4 else 0)
def aimOf (x y : Int32) : Int32 := if ab x = 0 then (if ab y = 0 then -1 else aimO x y) else aimO x y
def pP (bar c : Int32) : Int32 := rm6 c - rm6 bar
def pQ (bar c : Int32) : Int32 := c / 6 - bar / 6
def pSq (bar c : Int32) : Int32 := pP bar c * pP bar c + pQ bar c * pQ bar c
def pAl (bar d c : Int32) : Int32 := pP bar c * acr d + pQ bar c * dwn d
/-- how many times its direction a bar adds -/
def pull (bar d s c : Int32) : Int32 :=
  if pSq bar c = 0 then 0
  else if 2 * pAl bar d c * pAl bar d c < pSq bar c * (acr d * acr d + dwn d * dwn d) then -(s * 100 / pSq bar c / 2)
  else s * 100 / pSq bar c
def ahead (d a : Int32) : Int32 := (a - d) &&& 7
/-- the cells that a needle turns: above, below, left, right of it -/
def nbr (k j : Nat) : Bool := (decide (6 ≤ k) && decide (j + 6 = k)) || (decide (k < 30) && decide (j = k + 6)) || (decide (0 < k % 6) && decide (j + 1 = k)) || (decide (k % 6 < 5) && decide (j = k + 1))
/-- a loop's row when i places are filled -/
def fil (f g : Nat → Int32) (i : Nat) : Nat → Int32 := fun j => if j < i then f j else g j
theorem fil_0 (f g : Nat → Int32) : fil f g 0 = g := by funext j; simp [fil]
theorem fil_s (f g : Nat → Int32) (i : Nat) : upd (fil f g i) i (f i) = fil f g (i + 1) := by
  funext j
  by_cases h : j = i
  · subst h; simp [fil, upd]
  · by_cases h2 : j < i
    · simp [fil, upd, h, h2, show j < i + 1 by omega]
    · simp [fil, upd, h, h2, show ¬ j < i + 1 by omega]
theorem fil_in {f g : Nat → Int32} {i j : Nat} (h : j < i) : fil f g i j = f j := by simp [fil, h]
theorem fil_at (f g : Nat → Int32) (i : Nat) : fil f g i i = g i := by simp [fil]
/-- a sum that runs over the first n -/
def smI (b : Int32) (f : Nat → Int32) : Nat → Int32
  | 0 => b
  | n + 1 => smI b f n + f n
theorem smI_s (b : Int32) (f : Nat → Int32) (n : Nat) : smI b f (n + 1) = smI b f n + f n := rfl
/-- a count that runs over the first n -/
def cnI (P : Nat → Bool) : Nat → Nat
  | 0 => 0
  | n + 1 => cnI P n + (if P n then 1 else 0)
theorem cnI_t {P : Nat → Bool} {n : Nat} (h : P n = true) : cnI P (n + 1) = cnI P n + 1 := by simp [cnI, h]
theorem cnI_f {P : Nat → Bool} {n : Nat} (h : P n = false) : cnI P (n + 1) = cnI P n := by simp [cnI, h]
theorem cnI_le (P : Nat → Bool) (n : Nat) : cnI P n ≤ n := by
  induction n with
  | zero => exact Nat.le_refl _
  | succ n ih => simp only [cnI]; split <;> omega
theorem cnI_cong {P P2 : Nat → Bool} {n : Nat} (h : ∀ k, k < n → P k = P2 k) : cnI P n = cnI P2 n := by
  induction n with
  | zero => rfl
  | succ n ih => simp only [cnI]; rw [ih (fun k hk => h k (by omega)), h n (by omega)]
/-- a literal and a small natural -/
theorem nI_geL {N : Int32} {n i : Nat} (hN : N = nI n) (hn : n < 2 ^ 31) (hi : i < 2 ^ 31) : N ≤ nI i ↔ n ≤ i := by rw [hN]; exact nI_leI hn hi
theorem nI_ltL {N : Int32} {n i : Nat} (hN : N = nI n) (hn : n < 2 ^ 31) (hi : i < 2 ^ 31) : nI i < N ↔ i < n := by rw [hN]; exact nI_ltI hi hn
theorem rm6_nI {c : Nat} (h : c < 2 ^ 31) : nI c - nI c / 6 * 6 = nI (c % 6) := pk_rem (d := 6) h (by decide) (by decide)
theorem ge0 {x : Int32} (h : ¬ x < 0) : 0 ≤ x := by
  rw [Int32.lt_iff_toInt_lt] at h
  rw [Int32.le_iff_toInt_le]
  omega
theorem nlt0 {x : Int32} (h : 0 ≤ x) : ¬ x < 0 := by
  rw [Int32.le_iff_toInt_le] at h
  rw [Int32.lt_iff_toInt_lt]
  omega
theorem ab_ge {x : Int32} (h : 0 ≤ x) : ab x = x := by simp [ab, nlt0 h]
theorem ab_nge {x : Int32} (h : ¬ 0 ≤ x) : ab x = -x := by
  have : x < 0 := by
    rw [Int32.le_iff_toInt_le] at h
    rw [Int32.lt_iff_toInt_lt]
    omega
  simp [ab, this]
theorem nI_leL {N : Int32} {n i : Nat} (hN : N = nI n) (hn : n < 2 ^ 31) (hi : i < 2 ^ 31) : nI i ≤ N ↔ i ≤ n := by rw [hN]; exact nI_leI hi hn
/-- sums over the cells next to a cell -/
def addN (f : Nat → Int32) (c : Nat) (x : Int32) : Nat → Int32 :=
  let f1 := if 6 ≤ c then upd f (c - 6) (f (c - 6) + x) else f
  let f2 := if c < 30 then upd f1 (c + 6) (f1 (c + 6) + x) else f1
  let f3 := if 0 < c % 6 then upd f2 (c - 1) (f2 (c - 1) + x) else f2
  if c % 6 < 5 then upd f3 (c + 1) (f3 (c + 1) + x) else f3
theorem addN_key {x : Int32} {j : Nat} (g : Nat → Int32) (P : Prop) (d : Decidable P) (k : Nat) : (if P then upd g k (g k + x) else g) j = if P ∧ j = k then g j + x else g j := by
  by_cases hP : P
  · by_cases hj : j = k
    · subst hj
      simp [hP, upd]
    · simp [hP, hj, upd]
  · simp [hP]
theorem addN_at {f : Nat → Int32} {c : Nat} {x : Int32} (j : Nat) : addN f c x j = if nbr c j = true then f j + x else f j := by
  have hn : nbr c j = true ↔ ((6 ≤ c ∧ j = c - 6) ∨ (c < 30 ∧ j = c + 6) ∨ (0 < c % 6 ∧ j = c - 1) ∨ (c % 6 < 5 ∧ j = c + 1)) := by
    simp only [nbr, Bool.or_eq_true, Bool.and_eq_true, decide_eq_true_eq]
    omega
  unfold addN
  try dsimp only
  rw [addN_key, addN_key, addN_key, addN_key]
  by_cases hA : 6 ≤ c ∧ j = c - 6
  · rw [if_neg (by omega), if_neg (by omega), if_neg (by omega), if_pos hA, if_pos (hn.mpr (Or.inl hA))]
  · by_cases hB : c < 30 ∧ j = c + 6
    · rw [if_neg (by omega), if_neg (by omega), if_pos hB, if_neg hA, if_pos (hn.mpr (Or.inr (Or.inl hB)))]
    · by_cases hC : 0 < c % 6 ∧ j = c - 1
      · rw [if_neg (by omega), if_pos hC, if_neg hB, if_neg hA, if_pos (hn.mpr (Or.inr (Or.inr (Or.inl hC))))]
      · by_cases hE : c % 6 < 5 ∧ j = c + 1
        · rw [if_pos hE, if_neg hC, if_neg hB, if_neg hA, if_pos (hn.mpr (Or.inr (Or.inr (Or.inr hE))))]
        · rw [if_neg hE, if_neg hC, if_neg hB, if_neg hA, if_neg (fun z => by rcases hn.mp z with z | z | z | z <;> first | exact hA z | exact hB z | exact hC z | exact hE z)]
/-- every needle adds to its neighbours, the first n of them -/
def nxs (t : Nat → Int32) (w : Int32) (f : Nat → Int32) : Nat → Nat → Int32
  | 0 => f
  | n + 1 => addN (nxs t w f n) n (w * t n)
/-! a grid: 0 directions, 1 frictions, 2 held, 3 barDirections, 4 barStrengths, 5 settings, 6 turns, 7 coilDirection, 8 stepsSoFar, 9 stillX, 10 stillY, 11 fieldX, 12 fieldY -/
def sG : NSc := (2, [some (0, 36), some (0, 36), some (1, 36), some (0, 36), some (0, 36), some (0, 3), none, none, none, some (0, 36), some (0, 36), some (0, 36), some (0, 36)])
def isB (f : Nat → Int32) (k : Nat) : Bool := !decide (f k ≤ 0)
def awayI (d a : Int32) : Int32 := if a = -1 then -1 else if 4 < ahead d a then 8 - ahead d a else ahead d a
/-- the direction behind a step: held, direction, field, friction -/
def dAS (h d x y f : Int32) : Int32 := if h = 0 then (if aimOf x y = -1 then d else if aimOf x y = d then d else if f < ab x + ab y then (if 4 < ahead d (aimOf x y) then (d + -1) &&& 7 else (d + 1) &&& 7) else d) else d
def gT (G : Nat → Nat → Int32) (k : Nat) : Int32 := dAS (G 2 k) (G 0 k) (G 11 k) (G 12 k) (G 1 k)
def gAim (G : Nat → Nat → Int32) (k : Nat) : Int32 := aimOf (G 11 k) (G 12 k)
def gAw (G : Nat → Nat → Int32) (k : Nat) : Int32 := awayI (G 0 k) (gAim G k)
def mfX (G : Nat → Nat → Int32) : Nat → Int32 := nxs (fun k => acr (G 0 k)) (G 5 2) (G 9) 36
def mfY (G : Nat → Nat → Int32) : Nat → Int32 := nxs (fun k => dwn (G 0 k)) (G 5 2) (G 10) 36
/-- the field measured anew from the still part and the needles -/
def mfG (G : Nat → Nat → Int32) : Nat → Nat → Int32 := gu (gu G 11 (mfX G)) 12 (mfY G)
/-- all needles turn once -/
def taG (G : Nat → Nat → Int32) : Nat → Nat → Int32 := mfG (gu G 0 (fil (gT G) (G 0) 36))
def taN (G : Nat → Nat → Int32) (n : Nat) : Nat := cnI (fun k => !decide (gT G k = G 0 k)) n
/-- .. n times -/
def tgG (G : Nat → Nat → Int32) : Nat → Nat → Nat → Int32
  | 0 => G
  | n + 1 => taG (tgG G n)
def tgN (G : Nat → Nat → Int32) : Nat → Int32 := smI 0 (fun k => nI (taN (tgG G k) 36))
/-- the still part: bars up to n -/
def bX (d t : Nat → Int32) (k c : Nat) : Int32 := if t k ≤ 0 then 0 else pull (nI k) (d k) (t k) (nI c) * acr (d k)
def bY (d t : Nat → Int32) (k c : Nat) : Int32 := if t k ≤ 0 then 0 else pull (nI k) (d k) (t k) (nI c) * dwn (d k)
def maX (G : Nat → Nat → Int32) (n : Nat) : Nat → Int32 := fun c => smI (G 5 1 * G 6 0 * acr (G 7 0)) (fun k => bX (G 3) (G 4) k c) n
def maY (G : Nat → Nat → Int32) (n : Nat) : Nat → Int32 := fun c => smI (G 5 1 * G 6 0 * dwn (G 7 0) - G 5 0) (fun k => bY (G 3) (G 4) k c) n
def maG (G : Nat → Nat → Int32) : Nat → Nat → Int32 := mfG (gu (gu G 9 (maX G 36)) 10 (maY G 36))
/-- the first place with so many before it, among those that hold -/
def fndB (P : Nat → Bool) (pl : Int32) : Nat → Nat → Int32
  | 0, _ => -1
  | n + 1, i => if P i = true then (if nI (cnI P i) = pl then nI i else fndB P pl n (i + 1)) else fndB P pl n (i + 1)
theorem b01_t {P : Prop} [Decidable P] {r : Int32} (h : r = if P then 0 else 1) (c : ¬ r = 0) : ¬ P := fun z => c (by rw [h, if_pos z])
theorem b01_f {P : Prop} [Decidable P] {r : Int32} (h : r = if P then 0 else 1) (c : r = 0) : P := by
  by_cases z : P
  · exact z
  · rw [h, if_neg z] at c
    exact absurd c (by decide)
/-- how far all that have an aim are away from it -/
def awS (f : Nat → Int32) : Nat → Int32
  | 0 => 0
  | n + 1 => if f n = -1 then awS f n else awS f n + f n
theorem awS_t {f : Nat → Int32} {n : Nat} (h : ¬ f n = -1) : awS f (n + 1) = awS f n + f n := by simp [awS, h]
theorem awS_f {f : Nat → Int32} {n : Nat} (h : f n = -1) : awS f (n + 1) = awS f n := by simp [awS, h]
theorem nxs_s {t : Nat → Int32} {w : Int32} {f : Nat → Int32} {n : Nat} : nxs t w f (n + 1) = addN (nxs t w f n) n (w * t n) := rfl
theorem fil_eq {f g : Nat → Int32} {i : Nat} (h : f i = g i) : fil f g (i + 1) = fil f g i := by
  funext j
  by_cases h1 : j = i
  · subst h1; simp [fil, h]
  · by_cases h2 : j < i
    · simp [fil, h2, show j < i + 1 by omega]
    · simp [fil, h2, show ¬ j < i + 1 by omega]
theorem fil_s2 {f g : Nat → Int32} {i : Nat} {x : Int32} (h : x = f i) : upd (fil f g i) i x = fil f g (i + 1) := by rw [h, fil_s]
theorem maX_s {G : Nat → Nat → Int32} {n c : Nat} : maX G (n + 1) c = maX G n c + bX (G 3) (G 4) n c := rfl
theorem maY_s {G : Nat → Nat → Int32} {n c : Nat} : maY G (n + 1) c = maY G n c + bY (G 3) (G 4) n c := rfl
theorem gu_gu {G : Nat → Nat → Int32} {k : Nat} {f g : Nat → Int32} : gu (gu G k f) k g = gu G k g := by funext j; simp only [gu]; split <;> rfl
theorem gu_id {G : Nat → Nat → Int32} {k : Nat} : gu G k (G k) = G := by
  funext j
  simp only [gu]
  split
  · rename_i h; rw [h]
  · rfl
theorem nI_subL {c n : Nat} {N : Int32} (hN : N = nI n) (h : n ≤ c) : nI c - N = nI (c - n) := by rw [hN]; exact pk_sub h
theorem bX_t {d t : Nat → Int32} {k c : Nat} (h : ¬ t k ≤ 0) : bX d t k c = pull (nI k) (d k) (t k) (nI c) * acr (d k) := by simp [bX, h]
theorem bY_t {d t : Nat → Int32} {k c : Nat} (h : ¬ t k ≤ 0) : bY d t k c = pull (nI k) (d k) (t k) (nI c) * dwn (d k) := by simp [bY, h]
theorem bX_f {d t : Nat → Int32} {k c : Nat} (h : t k ≤ 0) : bX d t k c = 0 := by simp [bX, h]
theorem bY_f {d t : Nat → Int32} {k c : Nat} (h : t k ≤ 0) : bY d t k c = 0 := by simp [bY, h]
theorem maX_t {G : Nat → Nat → Int32} {n : Nat} (h : ¬ G 4 n ≤ 0) : (fun j => maX G n j + pull (nI n) (G 3 n) (G 4 n) (nI j) * acr (G 3 n)) = maX G (n + 1) := by
  funext j
  rw [maX_s, bX_t h]
theorem maY_t {G : Nat → Nat → Int32} {n : Nat} (h : ¬ G 4 n ≤ 0) : (fun j => maY G n j + pull (nI n) (G 3 n) (G 4 n) (nI j) * dwn (G 3 n)) = maY G (n + 1) := by
  funext j
  rw [maY_s, bY_t h]
theorem maX_f {G : Nat → Nat → Int32} {n : Nat} (h : G 4 n ≤ 0) : maX G (n + 1) = maX G n := by
  funext j
  rw [maX_s, bX_f h, Int32.add_zero]
theorem maY_f {G : Nat → Nat → Int32} {n : Nat} (h : G 4 n ≤ 0) : maY G (n + 1) = maY G n := by
  funext j
  rw [maY_s, bY_f h, Int32.add_zero]


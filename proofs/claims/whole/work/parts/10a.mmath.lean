/-! THE REFERENCE, told by a state's array S: 0..2 settings, 3 steps, 4 turns, 5 coil, 6.. needles, 42.. frictions, 78.. held, 114.. towards, 150.. strengths -/
def sM : NSc := (5, [some (0, 186), some (0, 186), some (0, 1116), none, some (0, 60), none, none, none, none, some (0, 18), none, some (0, 36), none, none])
def inI (v a b : Int32) : Int32 := if v < a then 0 else if b < v then 0 else 1
theorem inI_01 (v a b : Int32) : inI v a b = 0 ∨ inI v a b = 1 := by unfold inI; (repeat' split) <;> simp
def xO (d : Int32) : Int32 := if d = 2 then 0 else if d = 6 then 0 else if inI d 3 5 = 0 then 1 else -1
def yO (d : Int32) : Int32 := if d = 0 then 0 else if d = 4 then 0 else if inI d 1 3 = 0 then -1 else 1
theorem xO_8 : ∀ d : Fin 8, xO (nI d.val) = acr (nI d.val) := by decide +kernel
theorem yO_8 : ∀ d : Fin 8, yO (nI d.val) = dwn (nI d.val) := by decide +kernel
def mBX (S : Nat → Int32) (k c : Nat) : Int32 := if S (150 + k) ≤ 0 then 0 else if k = c then 0 else pull (nI k) (S (114 + k)) (S (150 + k)) (nI c) * xO (S (114 + k))
def mBY (S : Nat → Int32) (k c : Nat) : Int32 := if S (150 + k) ≤ 0 then 0 else if k = c then 0 else pull (nI k) (S (114 + k)) (S (150 + k)) (nI c) * yO (S (114 + k))
def mNX (S : Nat → Int32) (k c : Nat) : Int32 := (if farI (nI k) (nI c) = 1 then S 2 else 0) * xO (S (6 + k))
def mNY (S : Nat → Int32) (k c : Nat) : Int32 := (if farI (nI k) (nI c) = 1 then S 2 else 0) * yO (S (6 + k))
def mX (S : Nat → Int32) (c i : Nat) : Int32 := smI (0 + S 1 * S 4 * xO (S 5)) (fun k => mBX S k c + mNX S k c) i
def mY (S : Nat → Int32) (c i : Nat) : Int32 := smI (-S 0 + S 1 * S 4 * yO (S 5)) (fun k => mBY S k c + mNY S k c) i
def LX (S : Nat → Int32) (c : Nat) : Int32 := mX S c 36
def LY (S : Nat → Int32) (c : Nat) : Int32 := mY S c 36
theorem mX_t {S : Nat → Int32} {c i : Nat} {a b : Int32} (ha : mBX S i c = a) (hb : mNX S i c = b) : mX S c i + a + b = mX S c (i + 1) := by
  show _ = mX S c i + (mBX S i c + mNX S i c)
  rw [ha, hb, Int32.add_assoc]
theorem mY_t {S : Nat → Int32} {c i : Nat} {a b : Int32} (ha : mBY S i c = a) (hb : mNY S i c = b) : mY S c i + a + b = mY S c (i + 1) := by
  show _ = mY S c i + (mBY S i c + mNY S i c)
  rw [ha, hb, Int32.add_assoc]
theorem mX_f {S : Nat → Int32} {c i : Nat} {b : Int32} (ha : mBX S i c = 0) (hb : mNX S i c = b) : mX S c i + b = mX S c (i + 1) := by
  show _ = mX S c i + (mBX S i c + mNX S i c)
  rw [ha, hb, Int32.zero_add]
theorem mY_f {S : Nat → Int32} {c i : Nat} {b : Int32} (ha : mBY S i c = 0) (hb : mNY S i c = b) : mY S c i + b = mY S c (i + 1) := by
  show _ = mY S c i + (mBY S i c + mNY S i c)
  rw [ha, hb, Int32.zero_add]
theorem mBX_0 {S : Nat → Int32} {i c : Nat} (h : S (150 + i) ≤ 0) : mBX S i c = 0 := by unfold mBX; rw [if_pos h]
theorem mBY_0 {S : Nat → Int32} {i c : Nat} (h : S (150 + i) ≤ 0) : mBY S i c = 0 := by unfold mBY; rw [if_pos h]
theorem mBX_s {S : Nat → Int32} {i c : Nat} (h : i = c) : mBX S i c = 0 := by unfold mBX; rw [if_pos h]; split <;> rfl
theorem mBY_s {S : Nat → Int32} {i c : Nat} (h : i = c) : mBY S i c = 0 := by unfold mBY; rw [if_pos h]; split <;> rfl
theorem mBX_b {S : Nat → Int32} {i c : Nat} (h : ¬ S (150 + i) ≤ 0) (h2 : ¬ i = c) : mBX S i c = pull (nI i) (S (114 + i)) (S (150 + i)) (nI c) * xO (S (114 + i)) := by unfold mBX; rw [if_neg h, if_neg h2]
theorem mBY_b {S : Nat → Int32} {i c : Nat} (h : ¬ S (150 + i) ≤ 0) (h2 : ¬ i = c) : mBY S i c = pull (nI i) (S (114 + i)) (S (150 + i)) (nI c) * yO (S (114 + i)) := by unfold mBY; rw [if_neg h, if_neg h2]
theorem mNX_1 {S : Nat → Int32} {i c : Nat} (h : farI (nI i) (nI c) = 1) : mNX S i c = S 2 * xO (S (6 + i)) := by unfold mNX; rw [if_pos h]
theorem mNY_1 {S : Nat → Int32} {i c : Nat} (h : farI (nI i) (nI c) = 1) : mNY S i c = S 2 * yO (S (6 + i)) := by unfold mNY; rw [if_pos h]
theorem mNX_0 {S : Nat → Int32} {i c : Nat} (h : ¬ farI (nI i) (nI c) = 1) : mNX S i c = 0 * xO (S (6 + i)) := by unfold mNX; rw [if_neg h]
theorem mNY_0 {S : Nat → Int32} {i c : Nat} (h : ¬ farI (nI i) (nI c) = 1) : mNY S i c = 0 * yO (S (6 + i)) := by unfold mNY; rw [if_neg h]
/-- bars' directions are directions -/
def okB (S : Nat → Int32) : Prop := ∀ j, j < 36 → xO (S (114 + j)) = acr (S (114 + j)) ∧ yO (S (114 + j)) = dwn (S (114 + j))
theorem pSq0 {i c : Nat} (hi : i < 36) (hc : c < 36) (h : ¬ i = c) : pSq (nI i) (nI c) ≠ 0 := (far0 ⟨i, hi⟩ ⟨c, hc⟩).resolve_left (fun z => h (congrArg Fin.val z))
def mAim (S : Nat → Int32) (c : Nat) : Int32 := aimOf (LX S c) (LY S c)
def mTu (S : Nat → Int32) (c : Nat) : Int32 :=
  if S (78 + c) = 1 then S (6 + c) else if mAim S c = -1 then S (6 + c) else if mAim S c = S (6 + c) then S (6 + c)
  else if S (42 + c) < ab (LX S c) + ab (LY S c) then
    (if 4 < mAim S c - S (6 + c) + 8 - (mAim S c - S (6 + c) + 8) / 8 * 8 then S (6 + c) + 7 - (S (6 + c) + 7) / 8 * 8 else S (6 + c) + 1 - (S (6 + c) + 1) / 8 * 8)
  else S (6 + c)
def mAw (S : Nat → Int32) (c : Nat) : Int32 :=
  if mAim S c = -1 then -1
  else if 4 < mAim S c - S (6 + c) + 8 - (mAim S c - S (6 + c) + 8) / 8 * 8 then 8 - (mAim S c - S (6 + c) + 8 - (mAim S c - S (6 + c) + 8) / 8 * 8)
  else mAim S c - S (6 + c) + 8 - (mAim S c - S (6 + c) + 8) / 8 * 8
/-- the needles' new directions, the first i of them -/
def stI (S f : Nat → Int32) (i : Nat) : Nat → Int32 := fun j => if 6 ≤ j ∧ j < 6 + i then f (j - 6) else S j
theorem stI_0 {S f : Nat → Int32} : stI S f 0 = S := by funext j; unfold stI; rw [if_neg (by omega)]
theorem stI_s {S f : Nat → Int32} {i : Nat} : upd (stI S f i) (6 + i) (f i) = stI S f (i + 1) := by
  funext j
  by_cases h : j = 6 + i
  · subst h; rw [upd_s]; unfold stI; rw [if_pos (by omega), show 6 + i - 6 = i by omega]
  · rw [upd_n h]; unfold stI
    by_cases h2 : 6 ≤ j ∧ j < 6 + i
    · rw [if_pos h2, if_pos (by omega)]
    · rw [if_neg h2, if_neg (by omega)]
def mStp (S : Nat → Int32) : Nat → Int32 := stI S (mTu S) 36
def mTP (S : Nat → Int32) : Nat → Bool := fun k => !decide (mTu S k = S (6 + k))
theorem mTP_t {S : Nat → Int32} {k : Nat} (h : ¬ mTu S k = S (6 + k)) : mTP S k = true := by unfold mTP; rw [decide_eq_false h]; rfl
theorem mTP_f {S : Nat → Int32} {k : Nat} (h : mTu S k = S (6 + k)) : mTP S k = false := by unfold mTP; rw [decide_eq_true h]; rfl
def barP (S : Nat → Int32) : Nat → Bool := fun k => !decide (S (150 + k) ≤ 0)
theorem barP_t {S : Nat → Int32} {k : Nat} (h : ¬ S (150 + k) ≤ 0) : barP S k = true := by unfold barP; rw [decide_eq_false h]; rfl
theorem barP_f {S : Nat → Int32} {k : Nat} (h : S (150 + k) ≤ 0) : barP S k = false := by unfold barP; rw [decide_eq_true h]; rfl

/-! what the reference's looks answer, and the class's -/
theorem cnBar_g {N : Nat → Int32} : cnI (barP N) 36 = cnI (fun k => isB (gN N 4) k) 36 := cnI_cong fun k hk => barP_g hk
def twP (S : Nat → Int32) (d : Int32) : Nat → Bool := fun k => decide (S (6 + k) = d)
theorem twP_t {S : Nat → Int32} {d : Int32} {k : Nat} (h : S (6 + k) = d) : twP S d k = true := decide_eq_true h
theorem twP_f {S : Nat → Int32} {d : Int32} {k : Nat} (h : ¬ S (6 + k) = d) : twP S d k = false := decide_eq_false h
theorem tw_g {N : Nat → Int32} {d : Nat} : nI (cnI (twP N (nI d)) 36) = pntA N d := by
  unfold pntA
  refine congrArg nI (cnI_cong fun k hk => ?_)
  unfold twP
  rw [gN0 hk]
theorem cA3 {N : Nat → Int32} (h : okN N) {c : Nat} (hc : c < 36) : LX N c + 100000 = cellA N c 3 := by
  show _ = gN N 11 c + 100000
  rw [LX_g h.1 hc]
theorem cA4 {N : Nat → Int32} (h : okN N) {c : Nat} (hc : c < 36) : LY N c + 100000 = cellA N c 4 := by
  show _ = gN N 12 c + 100000
  rw [LY_g h.1 hc]
theorem cA5 {N : Nat → Int32} (h : okN N) {c : Nat} (hc : c < 36) : mAim N c = cellA N c 5 := mAim_g h.1 hc
theorem cA6 {N : Nat → Int32} (h : okN N) {c : Nat} (hc : c < 36) : (if mTu N c = N (6 + c) then (0 : Int32) else 1) = cellA N c 6 := by
  show _ = (if gT (gN N) c = gN N 0 c then (0 : Int32) else 1)
  rw [mTu_g h hc, gN0 hc]
theorem cA7 {N : Nat → Int32} (h : okN N) {c : Nat} (hc : c < 36) : mAw N c = cellA N c 7 := mAw_g h hc
theorem fndB_cong {P Q : Nat → Bool} {pl : Int32} : ∀ (n i : Nat), (∀ k, k < i + n → P k = Q k) → fndB P pl n i = fndB Q pl n i
  | 0, _, _ => rfl
  | n + 1, i, h => by
    simp only [fndB]
    rw [h i (by omega), cnI_cong (n := i) (fun k hk => h k (by omega)), fndB_cong n (i + 1) (fun k hk => h k (by omega))]
/-- a bar's number, found in the cell j -/
def barJ (N : Nat → Int32) (j w : Nat) : Int32 := if w = 0 then nI j else if w = 1 then N (114 + j) else N (150 + j)
theorem barA_no {N : Nat → Int32} {pl : Int32} {w : Nat} (h : fndB (barP N) pl 36 0 = -1) : barA N pl w = -1 := by
  have e : fndB (isB (gN N 4)) pl 36 0 = -1 := by rw [← h]; exact fndB_cong 36 0 fun k hk => (barP_g (by omega)).symm
  unfold barA
  rw [if_pos e]
theorem barA_yes {N : Nat → Int32} {pl : Int32} {j w : Nat} (hj : j < 36) (h : fndB (barP N) pl 36 0 = nI j) : barA N pl w = barJ N j w := by
  have e : fndB (isB (gN N 4)) pl 36 0 = nI j := by rw [← h]; exact fndB_cong 36 0 fun k hk => (barP_g (by omega)).symm
  unfold barA barJ
  rw [e, if_neg (by intro z; have := nI_pos (n := j) (by omega); rw [z] at this; exact this (by decide)), nI_clamp (by omega), gN3 hj, gN4 hj]
/-- a sum of noughts and ones -/
theorem smI_cn {f : Nat → Int32} {P : Nat → Bool} {n : Nat} (h : ∀ k, k < n → f k = if P k = true then 1 else 0) : smI 0 f n = nI (cnI P n) := by
  induction n with
  | zero => rfl
  | succ n ih =>
    rw [smI_s, ih fun k hk => h k (by omega), h n (by omega)]
    by_cases z : P n = true
    · rw [if_pos z, cnI_t z, nI_1]
    · rw [if_neg z, cnI_f (by simpa using z), Int32.add_zero]
/-- what a cell adds to a count -/
def cntF (N : Nat → Int32) (w k : Nat) : Int32 := if w = 4 then N (78 + k) else if w = 5 then cellA N k 6 else if w = 6 then (if mAw N k = 0 then 1 else 0) else (if mAw N k ≤ 0 then 0 else mAw N k)
theorem away_dir : ∀ a d : Fin 8, awayI (nI d.val) (nI a.val) = 0 ↔ nI a.val = nI d.val := by decide +kernel
theorem away_pos : ∀ a d : Fin 8, awayI (nI d.val) (nI a.val) ≠ -1 ∧ (awayI (nI d.val) (nI a.val) ≤ 0 → awayI (nI d.val) (nI a.val) = 0) := by decide +kernel
theorem dir_ne : ∀ d : Fin 8, (-1 : Int32) ≠ nI d.val := by decide +kernel
theorem aim_ix {N : Nat → Int32} (c : Nat) : gAim (gN N) c = -1 ∨ ∃ a : Fin 8, gAim (gN N) c = nI a.val := aimOf_ix _ _
theorem gAw_0 {N : Nat → Int32} (h : okN N) {k : Nat} (hk : k < 36) : gAw (gN N) k = 0 ↔ gAim (gN N) k = gN N 0 k := by
  obtain ⟨d, hd⟩ := h.1.1 k hk
  have e0 : gN N 0 k = N (6 + k) := gN0 hk
  have e : gAw (gN N) k = awayI (gN N 0 k) (gAim (gN N) k) := rfl
  rw [e, e0, hd]
  rcases aim_ix (N := N) k with z | ⟨a, z⟩
  · rw [z]
    refine ⟨fun q => ?_, fun q => absurd q (dir_ne d)⟩
    unfold awayI at q
    rw [if_pos rfl] at q
    exact absurd q (by decide)
  · rw [z]; exact away_dir a d
theorem gAw_n {N : Nat → Int32} (h : okN N) {k : Nat} (hk : k < 36) : gAw (gN N) k = -1 ↔ gAim (gN N) k = -1 := by
  obtain ⟨d, hd⟩ := h.1.1 k hk
  have e0 : gN N 0 k = N (6 + k) := gN0 hk
  have e : gAw (gN N) k = awayI (gN N 0 k) (gAim (gN N) k) := rfl
  rw [e, e0, hd]
  rcases aim_ix (N := N) k with z | ⟨a, z⟩
  · rw [z]
    refine ⟨fun _ => rfl, fun _ => ?_⟩
    unfold awayI
    rw [if_pos rfl]
  · rw [z]; exact ⟨fun q => absurd q (away_pos a d).1, fun q => absurd q.symm (dir_ne a)⟩
theorem gAw_le {N : Nat → Int32} (h : okN N) {k : Nat} (hk : k < 36) (q : gAw (gN N) k ≤ 0) : gAw (gN N) k = -1 ∨ gAw (gN N) k = 0 := by
  obtain ⟨d, hd⟩ := h.1.1 k hk
  have e0 : gN N 0 k = N (6 + k) := gN0 hk
  have e : gAw (gN N) k = awayI (gN N 0 k) (gAim (gN N) k) := rfl
  rcases aim_ix (N := N) k with z | ⟨a, z⟩
  · exact Or.inl ((gAw_n h hk).mpr z)
  · rw [e, e0, hd, z] at q ⊢
    exact Or.inr ((away_pos a d).2 q)
theorem cntF_4 {N : Nat → Int32} {k : Nat} : cntF N 4 k = N (78 + k) := by unfold cntF; rw [if_pos rfl]
theorem cntF_5 {N : Nat → Int32} {k : Nat} : cntF N 5 k = cellA N k 6 := by unfold cntF; rw [if_neg (by decide), if_pos rfl]
theorem cntF_6 {N : Nat → Int32} {k : Nat} : cntF N 6 k = if mAw N k = 0 then 1 else 0 := by unfold cntF; rw [if_neg (by decide), if_neg (by decide), if_pos rfl]
theorem cntF_7 {N : Nat → Int32} {k : Nat} : cntF N 7 k = if mAw N k ≤ 0 then 0 else mAw N k := by unfold cntF; rw [if_neg (by decide), if_neg (by decide), if_neg (by decide)]
theorem cnt4 {N : Nat → Int32} {kp : Nat} (h : okN N) : smI 0 (cntF N 4) 36 = cntA N kp 4 := by
  show smI 0 (cntF N 4) 36 = nI (cnI (fun k => !decide (gN N 2 k = 0)) 36)
  refine smI_cn fun k hk => ?_
  rw [cntF_4, gN2 hk]
  rcases h.2.1 k hk with z | z
  · rw [z]; rfl
  · rw [z]; rfl
theorem cnt5 {N : Nat → Int32} {kp : Nat} : smI 0 (cntF N 5) 36 = cntA N kp 5 := by
  show smI 0 (cntF N 5) 36 = nI (cnI (fun k => !decide (gT (gN N) k = gN N 0 k)) 36)
  refine smI_cn fun k hk => ?_
  rw [cntF_5]
  show (if gT (gN N) k = gN N 0 k then (0 : Int32) else 1) = _
  by_cases z : gT (gN N) k = gN N 0 k
  · rw [if_pos z, decide_eq_true z]; rfl
  · rw [if_neg z, decide_eq_false z]; rfl
theorem cnt6 {N : Nat → Int32} {kp : Nat} (h : okN N) : smI 0 (cntF N 6) 36 = cntA N kp 6 := by
  show smI 0 (cntF N 6) 36 = nI (cnI (fun k => decide (gAim (gN N) k = gN N 0 k)) 36)
  refine smI_cn fun k hk => ?_
  rw [cntF_6, mAw_g h hk]
  have e := gAw_0 h hk
  by_cases z : gAim (gN N) k = gN N 0 k
  · rw [if_pos (e.mpr z), decide_eq_true z]; rfl
  · rw [if_neg (fun q => z (e.mp q)), decide_eq_false z]; rfl
theorem awS_sm {f g : Nat → Int32} : ∀ n : Nat, (∀ k, k < n → (f k = -1 → g k = 0) ∧ (¬ f k = -1 → g k = f k)) → smI 0 g n = awS f n
  | 0, _ => rfl
  | n + 1, h => by
    rw [smI_s, awS_sm n fun k hk => h k (by omega)]
    by_cases z : f n = -1
    · rw [awS_f z, (h n (by omega)).1 z, Int32.add_zero]
    · rw [awS_t z, (h n (by omega)).2 z]
theorem cnt7 {N : Nat → Int32} {kp : Nat} (h : okN N) : smI 0 (cntF N 7) 36 = cntA N kp 7 := by
  show smI 0 (cntF N 7) 36 = awS (gAw (gN N)) 36
  refine awS_sm 36 fun k hk => ?_
  rw [cntF_7, mAw_g h hk]
  refine ⟨fun z => ?_, fun z => ?_⟩
  · rw [z, if_pos (by decide)]
  · by_cases q : gAw (gN N) k ≤ 0
    · rw [if_pos q]
      exact ((gAw_le h hk q).resolve_left z).symm
    · rw [if_neg q]

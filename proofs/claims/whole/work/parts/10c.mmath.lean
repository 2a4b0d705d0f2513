def cpI (f g : Nat → Int32) (p q i : Nat) : Nat → Int32 := fun j => if q ≤ j ∧ j < q + i then f (p + (j - q)) else g j
theorem cpI_0 {f g : Nat → Int32} {p q : Nat} : cpI f g p q 0 = g := by funext j; unfold cpI; rw [if_neg (by omega)]
theorem cpI_s {f g : Nat → Int32} {p q i : Nat} : upd (cpI f g p q i) (q + i) (f (p + i)) = cpI f g p q (i + 1) := by
  funext j
  by_cases h : j = q + i
  · subst h; rw [upd_s]; unfold cpI; rw [if_pos (by omega), show q + i - q = i by omega]
  · rw [upd_n h]; unfold cpI
    by_cases h2 : q ≤ j ∧ j < q + i
    · rw [if_pos h2, if_pos (by omega)]
    · rw [if_neg h2, if_neg (by omega)]
theorem cpI_in {f g : Nat → Int32} {p q i j : Nat} (h : q ≤ j) (h2 : j < q + i) : cpI f g p q i j = f (p + (j - q)) := by unfold cpI; rw [if_pos ⟨h, h2⟩]
theorem cpI_out {f g : Nat → Int32} {p q i j : Nat} (h : j < q ∨ q + i ≤ j) : cpI f g p q i j = g j := by unfold cpI; rw [if_neg (by omega)]
/-- the oldest saved state dropped -/
def shP (P : Nat → Int32) (i : Nat) : Nat → Int32 := fil (fun j => P (j + 186)) P i
theorem shP_s {P : Nat → Int32} {i : Nat} : upd (shP P i) i (shP P i (i + 186)) = shP P (i + 1) := by
  have e : shP P i (i + 186) = P (i + 186) := by unfold shP fil; rw [if_neg (by omega)]
  rw [e]
  exact fil_s (fun j => P (j + 186)) P i
def svP (P : Nat → Int32) (kp : Nat) (N : Nat → Int32) : Nat → Int32 := if kp < 6 then cpI N P 0 (186 * kp) 186 else cpI N (shP P 930) 0 (186 * 5) 186
/-- all that the reference holds; J: what is of no account between calls -/
def mG (N P : Nat → Int32) (kp : Nat) (C : Nat → Int32) (n : Nat) (th : Int32) (J : Nat → Nat → Int32) : Nat → Nat → Int32 := fun k => match k with
  | 0 => N
  | 2 => P
  | 3 => fun _ => nI kp
  | 4 => C
  | 5 => fun _ => nI n
  | 6 => fun _ => th
  | k => J k
/-- the needles, the bars' directions, the coil: directions; held; strengths; bars -/
def okM (S : Nat → Int32) : Prop := (∀ c, c < 36 → ∃ d : Fin 8, S (6 + c) = nI d.val) ∧ (∀ c, c < 36 → ∃ d : Fin 8, S (114 + c) = nI d.val) ∧ (∃ d : Fin 8, S 5 = nI d.val)
def okN (S : Nat → Int32) : Prop := okM S ∧ okH S ∧ (∀ c, c < 36 → ∃ q : Nat, q ≤ 50 ∧ S (150 + c) = nI q) ∧ cnI (barP S) 36 ≤ 6
theorem okM.b {S : Nat → Int32} (h : okM S) : okB S := fun j hj => by
  obtain ⟨d, hd⟩ := h.2.1 j hj
  rw [hd]
  exact ⟨xO_8 d, yO_8 d⟩
theorem LX_g {S : Nat → Int32} (h : okM S) {c : Nat} (hc : c < 36) : LX S c = gN S 11 c := by
  obtain ⟨d5, h5⟩ := h.2.2
  rw [gN11, ← smI_add]
  unfold LX mX
  rw [show (0 : Int32) + S 1 * S 4 * xO (S 5) = S 1 * S 4 * acr (S 5) by rw [Int32.zero_add, h5, xO_8 d5]]
  refine smI_cong fun k hk => ?_
  obtain ⟨dk, hdk⟩ := h.1 k hk
  have e0 : gB S 0 k = S (6 + k) := mk_in (f := fun j => S (6 + j)) hk
  have e3 : gB S 3 k = S (114 + k) := mk_in (f := fun j => S (114 + j)) hk
  have e4 : gB S 4 k = S (150 + k) := mk_in (f := fun j => S (150 + j)) hk
  have e5 : gB S 5 2 = S 2 := mk_in (f := S) (by decide)
  have a : mBX S k c = bX (gB S 3) (gB S 4) k c := by
    unfold mBX bX
    rw [e3, e4]
    by_cases z : S (150 + k) ≤ 0
    · rw [if_pos z, if_pos z]
    · rw [if_neg z, if_neg z]
      by_cases y : k = c
      · subst y
        rw [if_pos rfl]
        unfold pull
        rw [if_pos (pSq_self ⟨k, hk⟩), Int32.zero_mul]
      · rw [if_neg y, (h.b k hk).1]
  have b : mNX S k c = if nbr k c = true then gB S 5 2 * acr (gB S 0 k) else 0 := by
    unfold mNX
    rw [e0, e5, hdk, xO_8 dk]
    have f := far1 ⟨k, hk⟩ ⟨c, hc⟩
    by_cases z : nbr k c = true
    · rw [if_pos z, if_pos (f.mpr z)]
    · rw [if_neg z, if_neg (fun q => z (f.mp q)), Int32.zero_mul]
  rw [a, b]
theorem LY_g {S : Nat → Int32} (h : okM S) {c : Nat} (hc : c < 36) : LY S c = gN S 12 c := by
  obtain ⟨d5, h5⟩ := h.2.2
  rw [gN12, ← smI_add]
  unfold LY mY
  rw [show (-S 0) + S 1 * S 4 * yO (S 5) = S 1 * S 4 * dwn (S 5) - S 0 by rw [h5, yO_8 d5, Int32.add_comm, Int32.sub_eq_add_neg]]
  refine smI_cong fun k hk => ?_
  obtain ⟨dk, hdk⟩ := h.1 k hk
  have e0 : gB S 0 k = S (6 + k) := mk_in (f := fun j => S (6 + j)) hk
  have e3 : gB S 3 k = S (114 + k) := mk_in (f := fun j => S (114 + j)) hk
  have e4 : gB S 4 k = S (150 + k) := mk_in (f := fun j => S (150 + j)) hk
  have e5 : gB S 5 2 = S 2 := mk_in (f := S) (by decide)
  have a : mBY S k c = bY (gB S 3) (gB S 4) k c := by
    unfold mBY bY
    rw [e3, e4]
    by_cases z : S (150 + k) ≤ 0
    · rw [if_pos z, if_pos z]
    · rw [if_neg z, if_neg z]
      by_cases y : k = c
      · subst y
        rw [if_pos rfl]
        unfold pull
        rw [if_pos (pSq_self ⟨k, hk⟩), Int32.zero_mul]
      · rw [if_neg y, (h.b k hk).2]
  have b : mNY S k c = if nbr k c = true then gB S 5 2 * dwn (gB S 0 k) else 0 := by
    unfold mNY
    rw [e0, e5, hdk, yO_8 dk]
    have f := far1 ⟨k, hk⟩ ⟨c, hc⟩
    by_cases z : nbr k c = true
    · rw [if_pos z, if_pos (f.mpr z)]
    · rw [if_neg z, if_neg (fun q => z (f.mp q)), Int32.zero_mul]
  rw [a, b]
theorem aimO_ix (x y : Int32) : ∃ d : Fin 8, aimO x y = nI d.val := by
  unfold aimO
  (repeat' split)
  · exact ⟨5, rfl⟩
  · exact ⟨7, rfl⟩
  · exact ⟨3, rfl⟩
  · exact ⟨1, rfl⟩
  · exact ⟨6, rfl⟩
  · exact ⟨2, rfl⟩
  · exact ⟨4, rfl⟩
  · exact ⟨0, rfl⟩
theorem aimOf_ix (x y : Int32) : aimOf x y = -1 ∨ ∃ d : Fin 8, aimOf x y = nI d.val := by
  unfold aimOf
  split
  · split
    · exact Or.inl rfl
    · exact Or.inr (aimO_ix x y)
  · exact Or.inr (aimO_ix x y)
theorem mAim_g {S : Nat → Int32} (h : okM S) {c : Nat} (hc : c < 36) : mAim S c = gAim (gN S) c := by
  unfold mAim gAim
  rw [LX_g h hc, LY_g h hc]
theorem dir_up : ∀ d : Fin 8, nI d.val + 1 - (nI d.val + 1) / 8 * 8 = (nI d.val + 1) &&& 7 := by decide +kernel
theorem dir_dn : ∀ d : Fin 8, nI d.val + 7 - (nI d.val + 7) / 8 * 8 = (nI d.val + -1) &&& 7 := by decide +kernel
theorem dir_by : ∀ a d : Fin 8, nI a.val - nI d.val + 8 - (nI a.val - nI d.val + 8) / 8 * 8 = ahead (nI d.val) (nI a.val) := by decide +kernel
theorem mTu_g {S : Nat → Int32} (h : okN S) {c : Nat} (hc : c < 36) : mTu S c = gT (gN S) c := by
  obtain ⟨d, hd⟩ := h.1.1 c hc
  have e0 : gN S 0 c = S (6 + c) := gN0 hc
  have e1 : gN S 1 c = S (42 + c) := gN1 hc
  have e2 : gN S 2 c = S (78 + c) := gN2 hc
  have hA : mAim S c = aimOf (LX S c) (LY S c) := rfl
  unfold mTu gT dAS
  rw [e0, e1, e2, ← LX_g h.1 hc, ← LY_g h.1 hc, ← hA]
  rcases h.2.1 c hc with z | z
  · rw [z, if_neg (by decide), if_pos rfl]
    by_cases y : mAim S c = -1
    · rw [if_pos y, if_pos y]
    · rw [if_neg y, if_neg y]
      by_cases x : mAim S c = S (6 + c)
      · rw [if_pos x, if_pos x]
      · rw [if_neg x, if_neg x]
        by_cases w : S (42 + c) < ab (LX S c) + ab (LY S c)
        · rw [if_pos w, if_pos w]
          obtain ⟨a, ha⟩ := (aimOf_ix (LX S c) (LY S c)).resolve_left (fun q => y (hA.trans q))
          rw [hA.trans ha, hd, dir_by, dir_up, dir_dn]
        · rw [if_neg w, if_neg w]
  · rw [z, if_pos rfl, if_neg (by decide)]
theorem mAw_g {S : Nat → Int32} (h : okN S) {c : Nat} (hc : c < 36) : mAw S c = gAw (gN S) c := by
  obtain ⟨d, hd⟩ := h.1.1 c hc
  have e0 : gN S 0 c = S (6 + c) := gN0 hc
  unfold mAw gAw awayI
  rw [e0, ← mAim_g h.1 hc]
  have hA : mAim S c = aimOf (LX S c) (LY S c) := rfl
  by_cases y : mAim S c = -1
  · rw [if_pos y, if_pos y]
  · rw [if_neg y, if_neg y]
    obtain ⟨a, ha⟩ := (aimOf_ix (LX S c) (LY S c)).resolve_left (fun q => y (hA.trans q))
    rw [hA.trans ha, hd, dir_by]
theorem mStp_g {S : Nat → Int32} (h : okN S) : mStp S = stpN S := by
  funext j
  unfold mStp stI stpN
  by_cases z : 6 ≤ j ∧ j < 6 + 36
  · rw [if_pos z, if_pos (by omega), mTu_g h (by omega)]
  · rw [if_neg z, if_neg (by omega)]
theorem barP_g {S : Nat → Int32} {k : Nat} (hk : k < 36) : barP S k = isB (gN S 4) k := by
  unfold barP isB
  rw [gN4 hk]
theorem mTu_ix {S : Nat → Int32} (h : okN S) {c : Nat} (hc : c < 36) : ∃ d : Fin 8, mTu S c = nI d.val := by
  obtain ⟨d, hd⟩ := h.1.1 c hc
  have up : ∀ d : Fin 8, ∃ e : Fin 8, nI d.val + 1 - (nI d.val + 1) / 8 * 8 = nI e.val := by decide +kernel
  have dn : ∀ d : Fin 8, ∃ e : Fin 8, nI d.val + 7 - (nI d.val + 7) / 8 * 8 = nI e.val := by decide +kernel
  unfold mTu
  (repeat' split)
  · exact ⟨d, hd⟩
  · exact ⟨d, hd⟩
  · exact ⟨d, hd⟩
  · rw [hd]; exact dn d
  · rw [hd]; exact up d
  · exact ⟨d, hd⟩
theorem okN.stp {S : Nat → Int32} (h : okN S) : okN (stpN S) := by
  refine ⟨⟨fun c hc => ?_, fun c hc => ?_, ?_⟩, fun c hc => ?_, fun c hc => ?_, ?_⟩
  · rw [stpN_at hc, ← mTu_g h hc]; exact mTu_ix h hc
  · rw [stpN_lo (by omega)]; exact h.1.2.1 c hc
  · rw [stpN_lo (by omega)]; exact h.1.2.2
  · rw [stpN_lo (by omega)]; exact h.2.1 c hc
  · rw [stpN_lo (by omega)]; exact h.2.2.1 c hc
  · rw [cnI_cong (P2 := barP S) fun k hk => by unfold barP; rw [stpN_lo (by omega)]]; exact h.2.2.2
theorem okN.it {S : Nat → Int32} (h : okN S) (n : Nat) : okN (itN S n) := by
  induction n with
  | zero => exact h
  | succ n ih => exact ih.stp

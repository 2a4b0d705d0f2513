/-! a grid out of the state N; the object's world -/
def mk (n : Nat) (f : Nat → Int32) : Nat → Int32 := fun j => if j < n then f j else 0
def gB (N : Nat → Int32) : Nat → Nat → Int32 := fun k => match k with
  | 0 => mk 36 (fun j => N (6 + j))
  | 1 => mk 36 (fun j => N (42 + j))
  | 2 => mk 36 (fun j => N (78 + j))
  | 3 => mk 36 (fun j => N (114 + j))
  | 4 => mk 36 (fun j => N (150 + j))
  | 5 => mk 3 N
  | 6 => fun _ => N 4
  | 7 => fun _ => N 5
  | 8 => fun _ => N 3
  | _ => fun _ => 0
def gN (N : Nat → Int32) : Nat → Nat → Int32 := maG (gB N)
theorem mk_in {n j : Nat} {f : Nat → Int32} (h : j < n) : mk n f j = f j := by simp [mk, h]
theorem mk_upd {n c o : Nat} {N : Nat → Int32} {v : Int32} (hc : c < n) : mk n (fun j => upd N (o + c) v (o + j)) = upd (mk n (fun j => N (o + j))) c v := by
  funext j
  by_cases h : j = c
  · subst h; simp [mk, upd, hc]
  · by_cases h2 : j < n
    · simp [mk, upd, h, h2, show ¬ o + j = o + c by omega]
    · simp [mk, upd, h, h2]
theorem mk_off {n o i : Nat} {N : Nat → Int32} {v : Int32} (h : i < o ∨ o + n ≤ i) : mk n (fun j => upd N i v (o + j)) = mk n (fun j => N (o + j)) := by
  funext j
  by_cases h2 : j < n
  · simp [mk, upd, h2, show ¬ o + j = i by omega]
  · simp [mk, h2]
theorem mk_off0 {n i : Nat} {N : Nat → Int32} {v : Int32} (h : n ≤ i) : mk n (upd N i v) = mk n N := by
  funext j
  by_cases h2 : j < n
  · simp [mk, upd, h2, show ¬ j = i by omega]
  · simp [mk, h2]
theorem mk_upd0 {n c : Nat} {N : Nat → Int32} {v : Int32} (hc : c < n) : mk n (upd N c v) = upd (mk n N) c v := by
  funext j
  by_cases h : j = c
  · subst h; simp [mk, upd, hc]
  · by_cases h2 : j < n
    · simp [mk, upd, h, h2]
    · simp [mk, upd, h, h2]
theorem upd_n {N : Nat → Int32} {i j : Nat} {v : Int32} (h : j ≠ i) : upd N i v j = N j := by simp [upd, h]
theorem upd_s {N : Nat → Int32} {i : Nat} {v : Int32} : upd N i v i = v := by simp [upd]
/-- two functions of a field's number that agree at all fields -/
theorem gk {X Y : Nat → Nat → Int32} (h0 : X 0 = Y 0) (h1 : X 1 = Y 1) (h2 : X 2 = Y 2) (h3 : X 3 = Y 3) (h4 : X 4 = Y 4) (h5 : X 5 = Y 5) (h6 : X 6 = Y 6) (h7 : X 7 = Y 7) (h8 : X 8 = Y 8) (h9 : ∀ k, 9 ≤ k → X k = Y k) : X = Y := by
  funext k
  match k with
  | 0 => exact h0
  | 1 => exact h1
  | 2 => exact h2
  | 3 => exact h3
  | 4 => exact h4
  | 5 => exact h5
  | 6 => exact h6
  | 7 => exact h7
  | 8 => exact h8
  | k + 9 => exact h9 (k + 9) (by omega)
theorem gB_hi (N : Nat → Int32) {k : Nat} (h : 9 ≤ k) : gB N k = fun _ => 0 := by
  match k, h with
  | k + 9, _ => rfl
theorem gu_hi {G : Nat → Nat → Int32} {i k : Nat} {f : Nat → Int32} (h : i < k) : gu G i f k = G k := gu_n (by omega)
theorem gB_needle {N : Nat → Int32} {c : Nat} {v : Int32} (hc : c < 36) : gB (upd N (6 + c) v) = gu (gB N) 0 (upd (gB N 0) c v) := by
  refine gk (mk_upd hc) (mk_off (by omega)) (mk_off (by omega)) (mk_off (by omega)) (mk_off (by omega)) (mk_off0 (by omega)) ?_ ?_ ?_ (fun k hk => by rw [gu_hi (by omega), gB_hi _ hk, gB_hi _ hk])
  · funext _; exact upd_n (by omega)
  · funext _; exact upd_n (by omega)
  · funext _; exact upd_n (by omega)
theorem gB_friction {N : Nat → Int32} {c : Nat} {v : Int32} (hc : c < 36) : gB (upd N (42 + c) v) = gu (gB N) 1 (upd (gB N 1) c v) := by
  refine gk (mk_off (by omega)) (mk_upd hc) (mk_off (by omega)) (mk_off (by omega)) (mk_off (by omega)) (mk_off0 (by omega)) ?_ ?_ ?_ (fun k hk => by rw [gu_hi (by omega), gB_hi _ hk, gB_hi _ hk])
  · funext _; exact upd_n (by omega)
  · funext _; exact upd_n (by omega)
  · funext _; exact upd_n (by omega)
theorem gB_hold {N : Nat → Int32} {c : Nat} {v : Int32} (hc : c < 36) : gB (upd N (78 + c) v) = gu (gB N) 2 (upd (gB N 2) c v) := by
  refine gk (mk_off (by omega)) (mk_off (by omega)) (mk_upd hc) (mk_off (by omega)) (mk_off (by omega)) (mk_off0 (by omega)) ?_ ?_ ?_ (fun k hk => by rw [gu_hi (by omega), gB_hi _ hk, gB_hi _ hk])
  · funext _; exact upd_n (by omega)
  · funext _; exact upd_n (by omega)
  · funext _; exact upd_n (by omega)
theorem gB_towards {N : Nat → Int32} {c : Nat} {v : Int32} (hc : c < 36) : gB (upd N (114 + c) v) = gu (gB N) 3 (upd (gB N 3) c v) := by
  refine gk (mk_off (by omega)) (mk_off (by omega)) (mk_off (by omega)) (mk_upd hc) (mk_off (by omega)) (mk_off0 (by omega)) ?_ ?_ ?_ (fun k hk => by rw [gu_hi (by omega), gB_hi _ hk, gB_hi _ hk])
  · funext _; exact upd_n (by omega)
  · funext _; exact upd_n (by omega)
  · funext _; exact upd_n (by omega)
theorem gB_strength {N : Nat → Int32} {c : Nat} {v : Int32} (hc : c < 36) : gB (upd N (150 + c) v) = gu (gB N) 4 (upd (gB N 4) c v) := by
  refine gk (mk_off (by omega)) (mk_off (by omega)) (mk_off (by omega)) (mk_off (by omega)) (mk_upd hc) (mk_off0 (by omega)) ?_ ?_ ?_ (fun k hk => by rw [gu_hi (by omega), gB_hi _ hk, gB_hi _ hk])
  · funext _; exact upd_n (by omega)
  · funext _; exact upd_n (by omega)
  · funext _; exact upd_n (by omega)
theorem gB_setting {N : Nat → Int32} {c : Nat} {v : Int32} (hc : c < 3) : gB (upd N c v) = gu (gB N) 5 (upd (gB N 5) c v) := by
  refine gk (mk_off (by omega)) (mk_off (by omega)) (mk_off (by omega)) (mk_off (by omega)) (mk_off (by omega)) (mk_upd0 hc) ?_ ?_ ?_ (fun k hk => by rw [gu_hi (by omega), gB_hi _ hk, gB_hi _ hk])
  · funext _; exact upd_n (by omega)
  · funext _; exact upd_n (by omega)
  · funext _; exact upd_n (by omega)
theorem gB_turns {N : Nat → Int32} {v : Int32} : gB (upd N 4 v) = gu (gB N) 6 (fun _ => v) := by
  refine gk (mk_off (by omega)) (mk_off (by omega)) (mk_off (by omega)) (mk_off (by omega)) (mk_off (by omega)) (mk_off0 (by omega)) ?_ ?_ ?_ (fun k hk => by rw [gu_hi (by omega), gB_hi _ hk, gB_hi _ hk])
  · funext _; exact upd_s
  · funext _; exact upd_n (by omega)
  · funext _; exact upd_n (by omega)
theorem gB_coil {N : Nat → Int32} {v : Int32} : gB (upd N 5 v) = gu (gB N) 7 (fun _ => v) := by
  refine gk (mk_off (by omega)) (mk_off (by omega)) (mk_off (by omega)) (mk_off (by omega)) (mk_off (by omega)) (mk_off0 (by omega)) ?_ ?_ ?_ (fun k hk => by rw [gu_hi (by omega), gB_hi _ hk, gB_hi _ hk])
  · funext _; exact upd_n (by omega)
  · funext _; exact upd_s
  · funext _; exact upd_n (by omega)
theorem gB_steps {N : Nat → Int32} {v : Int32} : gB (upd N 3 v) = gu (gB N) 8 (fun _ => v) := by
  refine gk (mk_off (by omega)) (mk_off (by omega)) (mk_off (by omega)) (mk_off (by omega)) (mk_off (by omega)) (mk_off0 (by omega)) ?_ ?_ ?_ (fun k hk => by rw [gu_hi (by omega), gB_hi _ hk, gB_hi _ hk])
  · funext _; exact upd_n (by omega)
  · funext _; exact upd_n (by omega)
  · funext _; exact upd_s
/-- the measured grid is its first nine fields' -/
theorem maG_eq {X Y : Nat → Nat → Int32} (h : ∀ k, k < 9 ∨ 13 ≤ k → X k = Y k) : maG X = maG Y := by
  have e0 := h 0 (by omega)
  have e3 := h 3 (by omega)
  have e4 := h 4 (by omega)
  have e5 := h 5 (by omega)
  have e6 := h 6 (by omega)
  have e7 := h 7 (by omega)
  have a : maX X 36 = maX Y 36 := by unfold maX; rw [e3, e4, e5, e6, e7]
  have b : maY X 36 = maY Y 36 := by unfold maY; rw [e3, e4, e5, e6, e7]
  have cx : mfX (gu (gu X 9 (maX X 36)) 10 (maY X 36)) = mfX (gu (gu Y 9 (maX Y 36)) 10 (maY Y 36)) := by
    show nxs (fun k => acr (X 0 k)) (X 5 2) (maX X 36) 36 = nxs (fun k => acr (Y 0 k)) (Y 5 2) (maX Y 36) 36
    rw [e0, e5, a]
  have cy : mfY (gu (gu X 9 (maX X 36)) 10 (maY X 36)) = mfY (gu (gu Y 9 (maX Y 36)) 10 (maY Y 36)) := by
    show nxs (fun k => dwn (X 0 k)) (X 5 2) (maY X 36) 36 = nxs (fun k => dwn (Y 0 k)) (Y 5 2) (maY Y 36) 36
    rw [e0, e5, b]
  unfold maG mfG
  rw [cx, cy, a, b]
  funext k
  by_cases h12 : k = 12
  · subst h12; rfl
  by_cases h11 : k = 11
  · subst h11; rfl
  by_cases h10 : k = 10
  · subst h10; rfl
  by_cases h9 : k = 9
  · subst h9; rfl
  rw [gu_n h12, gu_n h11, gu_n h10, gu_n h9, gu_n h12, gu_n h11, gu_n h10, gu_n h9]
  exact h k (by omega)
theorem maG_lo {X : Nat → Nat → Int32} {k : Nat} (h : k < 9 ∨ 13 ≤ k) : maG X k = X k := by
  unfold maG mfG
  rw [gu_n (by omega), gu_n (by omega), gu_n (by omega), gu_n (by omega)]
/-- a needle's change, the field measured -/
theorem mf_ma {B : Nat → Nat → Int32} {f : Nat → Int32} : mfG (gu (maG B) 0 f) = maG (gu B 0 f) := by
  funext k
  by_cases h12 : k = 12
  · subst h12; rfl
  by_cases h11 : k = 11
  · subst h11; rfl
  by_cases h10 : k = 10
  · subst h10; rfl
  by_cases h9 : k = 9
  · subst h9; rfl
  unfold mfG
  rw [gu_n h12, gu_n h11, maG_lo (by omega)]
  by_cases h0 : k = 0
  · subst h0; rw [gu_s, gu_s]
  · rw [gu_n h0, gu_n h0, maG_lo (by omega)]
theorem gu_ma {B : Nat → Nat → Int32} {f : Nat → Int32} {i : Nat} (hi : i = 1 ∨ i = 2 ∨ i = 8) : gu (maG B) i f = maG (gu B i f) := by
  funext k
  by_cases h : k = i
  · subst h
    rw [gu_s, maG_lo (by omega), gu_s]
  · rw [gu_n h]
    by_cases h12 : k = 12
    · subst h12; rcases hi with rfl | rfl | rfl <;> rfl
    by_cases h11 : k = 11
    · subst h11; rcases hi with rfl | rfl | rfl <;> rfl
    by_cases h10 : k = 10
    · subst h10; rcases hi with rfl | rfl | rfl <;> rfl
    by_cases h9 : k = 9
    · subst h9; rcases hi with rfl | rfl | rfl <;> rfl
    rw [maG_lo (by omega), maG_lo (by omega), gu_n h]
/-- changes of the first nine fields, all measured -/
theorem ma_gu {B : Nat → Nat → Int32} {f : Nat → Int32} {i : Nat} : maG (gu (maG B) i f) = maG (gu B i f) := maG_eq (fun k hk => by
  by_cases h : k = i
  · subst h; rw [gu_s, gu_s]
  · rw [gu_n h, gu_n h, maG_lo hk])
theorem ma_gu2 {B : Nat → Nat → Int32} {f g : Nat → Int32} {i j : Nat} : maG (gu (gu (maG B) i f) j g) = maG (gu (gu B i f) j g) := maG_eq (fun k hk => by
  by_cases h : k = j
  · subst h; rw [gu_s, gu_s]
  · rw [gu_n h, gu_n h]
    by_cases h : k = i
    · subst h; rw [gu_s, gu_s]
    · rw [gu_n h, gu_n h, maG_lo hk])
theorem gN_needle {N : Nat → Int32} {c : Nat} {v : Int32} (hc : c < 36) : mfG (gu (gN N) 0 (upd (gN N 0) c v)) = gN (upd N (6 + c) v) := by
  unfold gN
  rw [gB_needle hc, ← mf_ma]
  rfl
theorem gN_friction {N : Nat → Int32} {c : Nat} {v : Int32} (hc : c < 36) : gu (gN N) 1 (upd (gN N 1) c v) = gN (upd N (42 + c) v) := by
  unfold gN
  rw [gB_friction hc, ← gu_ma (Or.inl rfl)]
  rfl
theorem gN_hold {N : Nat → Int32} {c : Nat} {v : Int32} (hc : c < 36) : gu (gN N) 2 (upd (gN N 2) c v) = gN (upd N (78 + c) v) := by
  unfold gN
  rw [gB_hold hc, ← gu_ma (Or.inr (Or.inl rfl))]
  rfl
theorem gN_bar {N : Nat → Int32} {c : Nat} {d t : Int32} (hc : c < 36) : maG (gu (gu (gN N) 3 (upd (gN N 3) c d)) 4 (upd (gN N 4) c t)) = gN (upd (upd N (114 + c) d) (150 + c) t) := by
  unfold gN
  rw [gB_strength hc, gB_towards hc, ma_gu2]
  rfl
theorem gN_coil {N : Nat → Int32} {d t : Int32} : maG (gu (gu (gN N) 6 (fun _ => t)) 7 (fun _ => d)) = gN (upd (upd N 5 d) 4 t) := by
  unfold gN
  rw [gB_turns, gB_coil, ma_gu2]
  exact maG_eq (fun k _ => by
    by_cases h : k = 7
    · subst h; rfl
    · by_cases h6 : k = 6
      · subst h6; rfl
      · rw [gu_n h, gu_n h6, gu_n h6, gu_n h])
theorem gN_set {N : Nat → Int32} {c : Nat} {v : Int32} (hc : c < 3) : maG (gu (gN N) 5 (upd (gN N 5) c v)) = gN (upd N c v) := by
  unfold gN
  rw [gB_setting hc, ma_gu]
  rfl
theorem gN_steps {N : Nat → Int32} {v : Int32} : gu (gN N) 8 (fun _ => v) = gN (upd N 3 v) := by
  unfold gN
  rw [gB_steps, ← gu_ma (Or.inr (Or.inr rfl))]
/-- a step of the state -/
def stpN (N : Nat → Int32) : Nat → Int32 := fun i => if 6 ≤ i ∧ i < 42 then gT (gN N) (i - 6) else N i
def itN (N : Nat → Int32) : Nat → Nat → Int32
  | 0 => N
  | n + 1 => stpN (itN N n)
theorem stpN_lo {N : Nat → Int32} {i : Nat} (h : i < 6 ∨ 42 ≤ i) : stpN N i = N i := by
  unfold stpN
  rw [if_neg (by omega)]
theorem stpN_at {N : Nat → Int32} {c : Nat} (h : c < 36) : stpN N (6 + c) = gT (gN N) c := by
  unfold stpN
  rw [if_pos (by omega), show 6 + c - 6 = c by omega]
theorem mk_eq {n : Nat} {f g : Nat → Int32} (h : ∀ j, j < n → f j = g j) : mk n f = mk n g := by
  funext j
  by_cases hj : j < n
  · simp [mk, hj, h j hj]
  · simp [mk, hj]
theorem gB_step {N : Nat → Int32} : gB (stpN N) = gu (gB N) 0 (fil (gT (gN N)) (gN N 0) 36) := by
  refine gk ?_ (mk_eq fun j hj => stpN_lo (by omega)) (mk_eq fun j hj => stpN_lo (by omega)) (mk_eq fun j hj => stpN_lo (by omega)) (mk_eq fun j hj => stpN_lo (by omega)) (mk_eq fun j hj => stpN_lo (by omega)) ?_ ?_ ?_ (fun k hk => by rw [gu_hi (by omega), gB_hi _ hk, gB_hi _ hk])
  · funext j
    show mk 36 (fun j => stpN N (6 + j)) j = fil (gT (gN N)) (gN N 0) 36 j
    by_cases hj : j < 36
    · rw [mk_in hj, fil_in hj, stpN_at hj]
    · show (if j < 36 then _ else 0) = (if j < 36 then _ else mk 36 (fun j => N (6 + j)) j)
      rw [if_neg hj, if_neg hj]
      simp [mk, hj]
  · funext _; exact stpN_lo (by omega)
  · funext _; exact stpN_lo (by omega)
  · funext _; exact stpN_lo (by omega)
theorem ta_gN {N : Nat → Int32} : taG (gN N) = gN (stpN N) := by
  unfold taG
  conv => rhs; unfold gN
  rw [gB_step, ← mf_ma]
  rfl
theorem tg_gN {N : Nat → Int32} (n : Nat) : tgG (gN N) n = gN (itN N n) := by
  induction n with
  | zero => rfl
  | succ n ih => show taG (tgG (gN N) n) = gN (stpN (itN N n)); rw [ih, ta_gN]
theorem itN_lo {N : Nat → Int32} {i : Nat} (h : i < 6 ∨ 42 ≤ i) (n : Nat) : itN N n i = N i := by
  induction n with
  | zero => rfl
  | succ n ih => show stpN (itN N n) i = N i; rw [stpN_lo h, ih]
/-- held is 0 or 1 -/
def okH (N : Nat → Int32) : Prop := ∀ k, k < 36 → N (78 + k) = 0 ∨ N (78 + k) = 1
theorem okH.g {N : Nat → Int32} (h : okH N) : ∀ k, k < 36 → gN N 2 k = 0 ∨ gN N 2 k = 1 := fun k hk => by
  have e : gN N 2 k = N (78 + k) := by show maG (gB N) 2 k = _; rw [maG_lo (by omega)]; exact mk_in (f := fun j => N (78 + j)) hk
  rw [e]
  exact h k hk
/-- the object's world: its state N, the ring's states, their numbers, the text -/
def cW (E : NE) (ad : Nat → Nat) (st : NW) (N : Nat → Int32) (Rs : Nat → Nat → Int32) (a x : Nat) (C : Nat → Int32) (n : Nat) : Prop :=
  isR E ad st 0 sN (fun _ _ => 0) ∧ isR E ad st 16 sH (hst a x) ∧ st 12 = some (nRing E ad) ∧ isR E ad st 32 sT (tx C n) ∧ (∃ R0, isR E ad st 48 sB (rB R0)) ∧ isR E ad st 64 sG (gN N) ∧ (∃ Tr, isR E ad st 80 sG Tr) ∧ ∀ i, i < 6 → isR E ad st (96 + 16 * i) sG (gN (Rs i))
def svR (N : Nat → Int32) (Rs : Nat → Nat → Int32) (x : Nat) : Nat → Nat → Int32 := fun i => if i = x then N else Rs i
def svA (a : Nat) : Nat := if a < 6 then a + 1 else a
def svX (x : Nat) : Nat := if x + 1 < 6 then x + 1 else 0
theorem saveW {E : NE} {ad : Nat → Nat} {st s1 : NW} {N : Nat → Int32} {Rs : Nat → Nat → Int32} {a x : Nat} {C : Nat → Int32} {n : Nat} (hW : cW E ad st N Rs a x C n) (h1 : isR E ad s1 16 sH (hst (if a < 6 then a + 1 else a) (if x + 1 < 6 then x + 1 else 0))) (h2 : ∀ i, i < 6 → isR E ad s1 (96 + 16 * i) sG (if i = x then gN N else gN (Rs i))) (h3 : frH st s1) : cW E ad s1 N (svR N Rs x) (svA a) (svX x) C n ∧ frX 0 208 st s1 := by
  obtain ⟨hN, hH, hQr, hT, ⟨R0, hB⟩, hR, ⟨Tr, hTr⟩, hRg⟩ := hW
  refine ⟨⟨hN.keepP (fun k _ _ => h3 k (by omega)) (by decide), h1, (h3 12 (by omega)).trans hQr, hT.keepP (fun k _ _ => h3 k (by omega)) (by decide), ⟨R0, hB.keepP (fun k _ _ => h3 k (by omega)) (by decide)⟩, hR.keepP (fun k _ _ => h3 k (by omega)) (by decide), ⟨Tr, hTr.keepP (fun k _ _ => h3 k (by omega)) (by decide)⟩, fun i hi => ?_⟩, fun k hk => h3 k (by omega)⟩
  have := h2 i hi
  unfold svR
  by_cases h : i = x
  · rw [if_pos h] at this ⊢; exact this
  · rw [if_neg h] at this ⊢; exact this
/-- the first number from i on that has the property, as an int; else -1 -/
def fnd1 (P : Nat → Bool) : Nat → Nat → Int32
  | 0, _ => -1
  | n + 1, i => if P i = true then nI i else fnd1 P n (i + 1)
theorem fnd1_yes {P : Nat → Bool} {n i : Nat} (hn : 0 < n) (h : P i = true) : fnd1 P n i = nI i := by
  obtain ⟨n, rfl⟩ : ∃ m, n = m + 1 := ⟨n - 1, by omega⟩
  simp only [fnd1]
  rw [if_pos h]
theorem fnd1_no {P : Nat → Bool} {n i : Nat} (hn : 0 < n) (h : P i = false) : fnd1 P n i = fnd1 P (n - 1) (i + 1) := by
  obtain ⟨n, rfl⟩ : ∃ m, n = m + 1 := ⟨n - 1, by omega⟩
  simp only [fnd1]
  rw [h, if_neg (by decide)]
  rfl


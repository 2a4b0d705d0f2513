/-! what the calls do to a state keeps it good -/
theorem okP_upd {N : Nat → Int32} {i : Nat} {v : Int32} (h : okP N) (hi : i < 150) (h1 : 6 ≤ i → i < 42 → ∃ d : Fin 8, v = nI d.val) (h2 : 114 ≤ i → ∃ d : Fin 8, v = nI d.val) (h3 : i = 5 → ∃ d : Fin 8, v = nI d.val) (h4 : 78 ≤ i → i < 114 → v = 0 ∨ v = 1)
    (h5 : 42 ≤ i → i < 78 → ∃ q : Nat, q ≤ 999 ∧ v = nI q) (h6 : i = 0 → ∃ q : Nat, q ≤ 200 ∧ v = nI q) (h7 : i = 1 → ∃ q : Nat, q ≤ 20 ∧ v = nI q) (h8 : i = 2 → ∃ q : Nat, q ≤ 50 ∧ v = nI q) (h9 : i = 4 → ∃ q : Nat, q ≤ 50 ∧ v = nI q) : okP (upd N i v) := by
  obtain ⟨hO, k0, k1, k2, k4, kf⟩ := h
  refine ⟨okN_upd hO hi h1 h2 h3 h4, ?_, ?_, ?_, ?_, fun c hc => ?_⟩
  · by_cases z : 0 = i
    · rw [z, upd_s]; exact h6 z.symm
    · rw [upd_n z]; exact k0
  · by_cases z : 1 = i
    · rw [z, upd_s]; exact h7 z.symm
    · rw [upd_n z]; exact k1
  · by_cases z : 2 = i
    · rw [z, upd_s]; exact h8 z.symm
    · rw [upd_n z]; exact k2
  · by_cases z : 4 = i
    · rw [z, upd_s]; exact h9 z.symm
    · rw [upd_n z]; exact k4
  · by_cases z : 42 + c = i
    · rw [z, upd_s]; exact h5 (by omega) (by omega)
    · rw [upd_n z]; exact kf c hc
theorem okP.needle {N : Nat → Int32} (h : okP N) {c d : Nat} (hc : c < 36) (hd : d < 8) : okP (upd N (6 + c) (nI d)) :=
  okP_upd h (by omega) (fun _ _ => ⟨⟨d, hd⟩, rfl⟩) (fun z => absurd z (by omega)) (fun z => absurd z (by omega)) (fun z => absurd z (by omega)) (fun z => absurd z (by omega)) (fun z => absurd z (by omega)) (fun z => absurd z (by omega)) (fun z => absurd z (by omega)) (fun z => absurd z (by omega))
theorem okP.friction {N : Nat → Int32} (h : okP N) {c q : Nat} (hc : c < 36) (hq : q ≤ 999) : okP (upd N (42 + c) (nI q)) :=
  okP_upd h (by omega) (fun _ z => absurd z (by omega)) (fun z => absurd z (by omega)) (fun z => absurd z (by omega)) (fun z => absurd z (by omega)) (fun _ _ => ⟨q, hq, rfl⟩) (fun z => absurd z (by omega)) (fun z => absurd z (by omega)) (fun z => absurd z (by omega)) (fun z => absurd z (by omega))
theorem okP.hold {N : Nat → Int32} (h : okP N) {c : Nat} {v : Int32} (hc : c < 36) (hv : v = 0 ∨ v = 1) : okP (upd N (78 + c) v) :=
  okP_upd h (by omega) (fun _ z => absurd z (by omega)) (fun z => absurd z (by omega)) (fun z => absurd z (by omega)) (fun _ _ => hv) (fun _ z => absurd z (by omega)) (fun z => absurd z (by omega)) (fun z => absurd z (by omega)) (fun z => absurd z (by omega)) (fun z => absurd z (by omega))
theorem okP.swap {N : Nat → Int32} (h : okP N) {c o : Nat} (hc : c < 36) (ho : o < 36) : okP (swpN N c o) := by
  have k := h
  obtain ⟨hO, k0, k1, k2, k4, kf⟩ := k
  unfold swpN
  refine okP_upd (okP_upd (okP_upd (okP_upd h (by omega) ?_ ?_ ?_ ?_ ?_ ?_ ?_ ?_ ?_) (by omega) ?_ ?_ ?_ ?_ ?_ ?_ ?_ ?_ ?_) (by omega) ?_ ?_ ?_ ?_ ?_ ?_ ?_ ?_ ?_) (by omega) ?_ ?_ ?_ ?_ ?_ ?_ ?_ ?_ ?_
  all_goals first
    | (intro a b; exact absurd a (by omega))
    | (intro a b; exact absurd b (by omega))
    | (intro a; exact absurd a (by omega))
    | (intro _ _; exact hO.1.1 _ ho)
    | (intro _ _; exact hO.1.1 _ hc)
    | (intro _ _; exact kf _ ho)
    | (intro _ _; exact kf _ hc)
theorem okP_bar {N : Nat → Int32} (h : okP N) {c : Nat} {d t : Int32} (hb : okN (barN N c d t)) : okP (barN N c d t) := by
  obtain ⟨hO, k0, k1, k2, k4, kf⟩ := h
  exact ⟨hb, by rw [barN_lo (by omega)]; exact k0, by rw [barN_lo (by omega)]; exact k1, by rw [barN_lo (by omega)]; exact k2, by rw [barN_lo (by omega)]; exact k4, fun c hc => by rw [barN_lo (by omega)]; exact kf c hc⟩
theorem okP.bar {N : Nat → Int32} (h : okP N) {c d : Nat} {t : Int32} (hc : c < 36) (hd : d < 8) (h1 : ¬ t < 1) (h2 : t ≤ 50) (hb : N (150 + c) ≤ 0 → cnI (barP N) 36 < 6) : okP (upd (upd N (114 + c) (nI d)) (150 + c) t) := okP_bar h (okN_bar h.1 hc hd h1 h2 hb)
theorem okP.unbar {N : Nat → Int32} (h : okP N) {c : Nat} (hc : c < 36) : okP (upd (upd N (114 + c) 0) (150 + c) 0) := okP_bar h (okN_unbar h.1 hc)
theorem okP.coil {N : Nat → Int32} (h : okP N) {d t : Nat} (hd : d < 8) (ht : t ≤ 50) : okP (upd (upd N 5 (nI d)) 4 (nI t)) := by
  refine okP_upd (okP_upd h (by omega) ?_ ?_ ?_ ?_ ?_ ?_ ?_ ?_ ?_) (by omega) ?_ ?_ ?_ ?_ ?_ ?_ ?_ ?_ ?_
  all_goals first
    | (intro a b; exact absurd a (by omega))
    | (intro a; exact absurd a (by omega))
    | (intro _; exact ⟨⟨d, hd⟩, rfl⟩)
    | (intro _; exact ⟨t, ht, rfl⟩)
theorem okP.set0 {N : Nat → Int32} (h : okP N) {q : Nat} (hq : q ≤ 200) : okP (upd N 0 (nI q)) :=
  okP_upd h (by omega) (fun z => absurd z (by omega)) (fun z => absurd z (by omega)) (fun z => absurd z (by omega)) (fun z => absurd z (by omega)) (fun z => absurd z (by omega)) (fun _ => ⟨q, hq, rfl⟩) (fun z => absurd z (by omega)) (fun z => absurd z (by omega)) (fun z => absurd z (by omega))
theorem okP.set1 {N : Nat → Int32} (h : okP N) {q : Nat} (hq : q ≤ 20) : okP (upd N 1 (nI q)) :=
  okP_upd h (by omega) (fun z => absurd z (by omega)) (fun z => absurd z (by omega)) (fun z => absurd z (by omega)) (fun z => absurd z (by omega)) (fun z => absurd z (by omega)) (fun z => absurd z (by omega)) (fun _ => ⟨q, hq, rfl⟩) (fun z => absurd z (by omega)) (fun z => absurd z (by omega))
theorem okP.set2 {N : Nat → Int32} (h : okP N) {q : Nat} (hq : q ≤ 50) : okP (upd N 2 (nI q)) :=
  okP_upd h (by omega) (fun z => absurd z (by omega)) (fun z => absurd z (by omega)) (fun z => absurd z (by omega)) (fun z => absurd z (by omega)) (fun z => absurd z (by omega)) (fun z => absurd z (by omega)) (fun z => absurd z (by omega)) (fun _ => ⟨q, hq, rfl⟩) (fun z => absurd z (by omega))
theorem gT_8x {S : Nat → Int32} (h : okN S) {c : Nat} (hc : c < 36) : ∃ d : Fin 8, gT (gN S) c = nI d.val := by
  obtain ⟨d, hd⟩ := h.1.1 c hc
  unfold gT
  rw [gN0 hc, hd]
  exact dAS_8 d
theorem okN.stp1 {S : Nat → Int32} (h : okN S) : okN (stpN S) := by
  refine ⟨⟨fun c hc => ?_, fun c hc => ?_, ?_⟩, fun c hc => ?_, fun c hc => ?_, ?_⟩
  · rw [stpN_at hc]; exact gT_8x h hc
  · rw [stpN_lo (by omega)]; exact h.1.2.1 c hc
  · rw [stpN_lo (by omega)]; exact h.1.2.2
  · rw [stpN_lo (by omega)]; exact h.2.1 c hc
  · rw [stpN_lo (by omega)]; exact h.2.2.1 c hc
  · rw [cnI_cong (P2 := barP S) fun k hk => by unfold barP; rw [stpN_lo (by omega)]]; exact h.2.2.2
theorem okN.it1 {S : Nat → Int32} (h : okN S) (n : Nat) : okN (itN S n) := by
  induction n with
  | zero => exact h
  | succ n ih => exact ih.stp1
theorem okP.it {N : Nat → Int32} (h : okP N) (n : Nat) : okP (itN N n) := by
  obtain ⟨hO, k0, k1, k2, k4, kf⟩ := h
  exact ⟨hO.it1 n, by rw [itN_lo (by omega)]; exact k0, by rw [itN_lo (by omega)]; exact k1, by rw [itN_lo (by omega)]; exact k2, by rw [itN_lo (by omega)]; exact k4, fun c hc => by rw [itN_lo (by omega)]; exact kf c hc⟩
theorem okP.step {N : Nat → Int32} (h : okP N) (n : Nat) (v : Int32) : okP (upd (itN N n) 3 v) :=
  okP_upd (h.it n) (by omega) (fun z => absurd z (by omega)) (fun z => absurd z (by omega)) (fun z => absurd z (by omega)) (fun z => absurd z (by omega)) (fun z => absurd z (by omega)) (fun z => absurd z (by omega)) (fun z => absurd z (by omega)) (fun z => absurd z (by omega)) (fun z => absurd z (by omega))
theorem okP_0 : okP N0 := by
  refine ⟨okN_0, ⟨20, by omega, by decide +kernel⟩, ⟨2, by omega, by decide +kernel⟩, ⟨3, by omega, by decide +kernel⟩, ⟨0, by omega, by decide +kernel⟩, fun c hc => ⟨10, by omega, ?_⟩⟩
  unfold N0
  rw [if_neg (by omega), if_neg (by omega), if_neg (by omega), if_neg (by omega), if_pos (by omega)]
  rfl
theorem svR_P {N : Nat → Int32} {Rs : Nat → Nat → Int32} {x : Nat} (h : ∀ i, i < 6 → okP (Rs i)) (hO : okP N) : ∀ i, i < 6 → okP (svR N Rs x i) := fun i hi => by
  unfold svR
  split
  · exact hO
  · exact h i hi
/-! the script's numbers, brought within bounds -/
def lwN (v : Int32) (n : Nat) : Nat := v.toBitVec.toNat % 2 ^ 31 % n
theorem lwN_lt {v : Int32} {n : Nat} (h : 0 < n) : lwN v n < n := Nat.mod_lt _ h
theorem lw_and (v : Int32) : v &&& 2147483647 = nI (v.toBitVec.toNat % 2 ^ 31) := pk_and v 31 (by decide +kernel)
theorem lw_low {v : Int32} {n : Nat} (h : 0 < n) (hn : n < 2 ^ 31) : (v &&& 2147483647) - (v &&& 2147483647) / nI n * nI n = nI (lwN v n) := by
  rw [lw_and]
  exact pk_rem (Nat.mod_lt _ (Nat.two_pow_pos 31)) h hn
/-- a number of the script, or one made up where it has none -/
def scI (E : NE) (k : Nat) : Int32 := if k < E.2.2 4 then scr E k else 40503 * nI k + 977
/-- what a call of the law's act leaves -/
def ActP (E : NE) (ad : Nat → Nat) (st : NW) (N : Nat → Int32) (a : Nat) (sort run : Nat) (r : Int32) (s1 : NW) : Prop :=
  ∃ N' Rs' a' x', a' ≤ 6 ∧ x' < 6 ∧ okP N' ∧ (∀ i, i < 6 → okP (Rs' i)) ∧ cW E ad s1 N' Rs' a' x' (fun _ => 0) 0 ∧ (r < 0 → N' = N ∧ a' = a) ∧ (15 ≤ sort → sort ≤ 17 → N' = upd (itN N run) 3 (N 3 + nI run) ∧ r = tgN (gN N) run)

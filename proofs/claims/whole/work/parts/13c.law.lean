/-! what holds between two rounds of the law -/
def hRel (P : Nat → Int32) (Rs : Nat → Nat → Int32) (a x : Nat) : Prop := ∀ j, j < a → ∀ q, q < 186 → P (186 * j + q) = Rs ((x + 6 - a + j) % 6) q
def LSt (E : NE) (ad : Nat → Nat) (st : NW) (N : Nat → Int32) (Rs : Nat → Nat → Int32) (a x : Nat) (C : Nat → Int32) (n : Nat) (P : Nat → Int32) (th : Int32) (J : Nat → Nat → Int32) (v : Int64) : Prop :=
  a ≤ 6 ∧ x < 6 ∧ n ≤ 60 ∧ okN N ∧ (∀ i, i < 6 → okN (Rs i)) ∧ okC C n ∧ hRel P Rs a x ∧ cW E ad st N Rs a x C n ∧ isR E ad st 208 sM (mG N P a C n th J) ∧ st 240 = some (outE E v)
def LI (E : NE) (ad : Nat → Nat) (st : NW) : Prop := ∃ N Rs a x C n P th J v, LSt E ad st N Rs a x C n P th J v
theorem hRel_sv {P N : Nat → Int32} {Rs : Nat → Nat → Int32} {a x : Nat} (h : hRel P Rs a x) (ha : a ≤ 6) (hx : x < 6) : hRel (svP P a N) (svR N Rs x) (svA a) (svX x) := by
  intro j hj q hq
  by_cases h6 : a < 6
  · rw [svP_l h6]
    rw [svA_l h6] at hj ⊢
    have hX : (svX x + 6 - (a + 1) + j) % 6 = (x + 6 - a + j) % 6 := by unfold svX; split <;> omega
    rw [hX]
    by_cases hja : j = a
    · subst hja
      rw [cpI_in (by omega) (by omega), show (x + 6 - j + j) % 6 = x by omega]
      rw [show svR N Rs x x = N by unfold svR; rw [if_pos rfl]]
      exact congrArg N (by omega)
    · rw [cpI_out (by omega), h j (by omega) q hq]
      unfold svR
      rw [if_neg (by omega)]
  · have e : a = 6 := by omega
    subst e
    have hA : svA 6 = 6 := rfl
    rw [hA] at hj ⊢
    rw [svP_6]
    by_cases hj5 : j = 5
    · subst hj5
      have hX : (svX x + 6 - 6 + 5) % 6 = x := by unfold svX; split <;> omega
      rw [cpI_in (by omega) (by omega), hX]
      rw [show svR N Rs x x = N by unfold svR; rw [if_pos rfl]]
      exact congrArg N (by omega)
    · have hX : (svX x + 6 - 6 + j) % 6 = (x + 6 - 6 + (j + 1)) % 6 := by unfold svX; split <;> omega
      rw [cpI_out (by omega), hX]
      unfold shP
      rw [fil_in (by omega)]
      show P (186 * j + q + 186) = _
      rw [show 186 * j + q + 186 = 186 * (j + 1) + q by omega, h (j + 1) (by omega) q hq]
      unfold svR
      rw [if_neg (by omega)]
theorem svA_le {a : Nat} (h : a ≤ 6) : svA a ≤ 6 := by unfold svA; split <;> omega
theorem svX_lt {x : Nat} : svX x < 6 := by unfold svX; split <;> omega
theorem svR_ok {N : Nat → Int32} {Rs : Nat → Nat → Int32} {x : Nat} (h : ∀ i, i < 6 → okN (Rs i)) (hO : okN N) : ∀ i, i < 6 → okN (svR N Rs x i) := fun i hi => by
  unfold svR
  split
  · exact hO
  · exact h i hi
theorem cW.keep {E : NE} {ad : Nat → Nat} {s9 s1 : NW} {N : Nat → Int32} {Rs : Nat → Nat → Int32} {a x : Nat} {C : Nat → Int32} {n : Nat} (h : cW E ad s9 N Rs a x C n) (hf : ∀ k, k < 208 → s1 k = s9 k) : cW E ad s1 N Rs a x C n := by
  obtain ⟨h1, h2, h3, h4, ⟨R0, h5⟩, h6, ⟨Tr, h7⟩, h8⟩ := h
  exact ⟨h1.keepP (fun k _ _ => hf k (by omega)) (by decide), h2.keepP (fun k _ _ => hf k (by omega)) (by decide), (hf 12 (by omega)).trans h3, h4.keepP (fun k _ _ => hf k (by omega)) (by decide), ⟨R0, h5.keepP (fun k _ _ => hf k (by omega)) (by decide)⟩, h6.keepP (fun k _ _ => hf k (by omega)) (by decide), ⟨Tr, h7.keepP (fun k _ _ => hf k (by omega)) (by decide)⟩, fun i hi => (h8 i hi).keepP (fun k _ _ => hf k (by omega)) (by decide)⟩
/-- a call of the class and the same of the reference, whatever they are asked: they answer alike -/
def CaseOK (l : Launch) (E : NE) (ad : Nat → Nat) (st : NW) (yW : MethodName) (wsW : List Cond) (rmW : Room) (yM : MethodName) (wsM : List Cond) (rmM : Room) (args : List Value) : Prop :=
  ∃ (kk : Int32) (K : NW → Prop) (M : NW → Int32 → NW → Prop), nMx l yW wsW rmW E ad st (.ref (ad 0) :: (args ++ [.ref (ad 240)])) (fun k s1 => k = kk ∧ K s1) ∧ (∀ s1, K s1 → ∃ fs, s1 208 = some (.inr (5, fs))) ∧ (∀ s1, K s1 → nMi l yM wsM rmM E ad s1 (.ref (ad 208) :: args) (M s1)) ∧ (∀ s1 b s2, K s1 → M s1 b s2 → (∃ G, isR E ad s2 208 sM G ∧ G 6 0 = kk) ∧ (kk = 0 → s2 240 = some (outE E b.toInt64)) ∧ (∃ v, s2 240 = some (outE E v)) ∧ LI E ad s2)
section QS
variable {l : Launch} {E : NE} {ad : Nat → Nat} {st : NW} {N : Nat → Int32} {Rs : Nat → Nat → Int32} {a x : Nat} {C : Nat → Int32} {n : Nat} {P : Nat → Int32} {th : Int32} {J : Nat → Nat → Int32} {v : Int64}
variable {yW yM : MethodName} {wsW wsM : List Cond} {rmW rmM : Room} {args : List Value}
theorem q_valid {N' : Nat → Int32} {Rs' : Nat → Nat → Int32} {a' x' : Nat} {C' : Nat → Int32} {n' : Nat} {P' : Nat → Int32} {ans : Int32} {Pc : Int32 → NW → Prop} {Mp : NW → Int32 → NW → Prop} (hS : LSt E ad st N Rs a x C n P th J v)
    (hw : (∀ r s9, Pc r s9 → s9 240 = some (outE E v)) → nMx l yW wsW rmW E ad st (.ref (ad 0) :: (args ++ [.ref (ad 240)])) (fun k s1 => k = 0 ∧ ∃ r s9, Pc r s9 ∧ one 240 s9 s1 ∧ s1 240 = some (outE E r.toInt64)))
    (hPc : ∀ r s9, Pc r s9 → r = ans ∧ cW E ad s9 N' Rs' a' x' C' n' ∧ frX 0 208 st s9)
    (hm : ∀ s1, isR E ad s1 208 sM (mG N P a C n th J) → nMi l yM wsM rmM E ad s1 (.ref (ad 208) :: args) (Mp s1))
    (hMp : ∀ s1 b s2, Mp s1 b s2 → b = ans ∧ (∃ J1, isR E ad s2 208 sM (mG N' P' a' C' n' 0 J1)) ∧ fr 208 s1 s2 ∧ okN N')
    (hnew : a' ≤ 6 ∧ x' < 6 ∧ n' ≤ 60 ∧ (∀ i, i < 6 → okN (Rs' i)) ∧ okC C' n' ∧ hRel P' Rs' a' x') : CaseOK l E ad st yW wsW rmW yM wsM rmM args := by
  obtain ⟨ha, hxx, hn, hO, hOs, hC, hR, hW, hM, h2⟩ := hS
  have h240 : ∀ r s9, Pc r s9 → s9 240 = some (outE E v) := fun r s9 h => ((hPc r s9 h).2.2 240 (by omega)).trans h2
  have key : ∀ s1, (∃ r s9, Pc r s9 ∧ one 240 s9 s1 ∧ s1 240 = some (outE E r.toInt64)) → isR E ad s1 208 sM (mG N P a C n th J) := fun s1 ⟨r, s9, h1, h3, _⟩ => hM.keepP (fun k _ _ => (h3 k (by omega)).trans ((hPc r s9 h1).2.2 k (by omega))) (by decide)
  refine ⟨0, _, Mp, hw h240, fun s1 h => ⟨_, (key s1 h).1⟩, fun s1 h => hm s1 (key s1 h), fun s1 b s2 h hb => ?_⟩
  obtain ⟨r, s9, h1, h3, h4⟩ := h
  obtain ⟨er, hc, hf⟩ := hPc r s9 h1
  obtain ⟨eb, ⟨J1, hJ⟩, hfr, hO'⟩ := hMp s1 b s2 hb
  have e240 : s2 240 = some (outE E b.toInt64) := by rw [hfr 240 (by omega), h4, er, eb]
  obtain ⟨n1, n2, n3, n4, n5, n6⟩ := hnew
  exact ⟨⟨_, hJ, rfl⟩, fun _ => e240, ⟨_, e240⟩, N', Rs', a', x', C', n', P', 0, J1, b.toInt64, n1, n2, n3, hO', n4, n5, n6, hc.keep (fun k hk => (hfr k (by omega)).trans (h3 k (by omega))), hJ, e240⟩
theorem q_throw {kk : Int32} {Pc : NW → Prop} {Mp : NW → Int32 → NW → Prop} (hS : LSt E ad st N Rs a x C n P th J v) (hk : kk ≠ 0)
    (hw : nMx l yW wsW rmW E ad st (.ref (ad 0) :: (args ++ [.ref (ad 240)])) (fun k s1 => k = kk ∧ Pc s1))
    (hPc : ∀ s9, Pc s9 → cW E ad s9 N Rs a x C n ∧ frX 0 208 st s9)
    (hm : ∀ s1, isR E ad s1 208 sM (mG N P a C n th J) → nMi l yM wsM rmM E ad s1 (.ref (ad 208) :: args) (Mp s1))
    (hMp : ∀ s1 b s2, Mp s1 b s2 → b = 0 ∧ (∃ J1, isR E ad s2 208 sM (mG N P a C n kk J1)) ∧ fr 208 s1 s2) : CaseOK l E ad st yW wsW rmW yM wsM rmM args := by
  obtain ⟨ha, hxx, hn, hO, hOs, hC, hR, hW, hM, h2⟩ := hS
  have key : ∀ s1, Pc s1 → isR E ad s1 208 sM (mG N P a C n th J) := fun s1 h1 => hM.keepP (fun k _ _ => (hPc s1 h1).2 k (by omega)) (by decide)
  refine ⟨kk, Pc, Mp, hw, fun s1 h => ⟨_, (key s1 h).1⟩, fun s1 h => hm s1 (key s1 h), fun s1 b s2 h hb => ?_⟩
  obtain ⟨hc, hf⟩ := hPc s1 h
  obtain ⟨eb, ⟨J1, hJ⟩, hfr⟩ := hMp s1 b s2 hb
  have e240 : s2 240 = some (outE E v) := ((hfr 240 (by omega)).trans (hf 240 (by omega))).trans h2
  exact ⟨⟨_, hJ, rfl⟩, fun z => absurd z hk, ⟨_, e240⟩, N, Rs, a, x, C, n, P, kk, J1, v, ha, hxx, hn, hO, hOs, hC, hR, hc.keep (fun k hk => hfr k (by omega)), hJ, e240⟩
end QS
theorem inI_bad {v M : Int32} (h : inI v 0 M = 0) : ¬ v < 0 → ¬ v ≤ M := fun h1 h2 => by
  unfold inI at h
  rw [if_neg h1, if_neg (le_nlt h2)] at h
  exact absurd h (by decide)
theorem inI_badA {v lo M : Int32} (h : inI v lo M = 0) : ¬ v < lo → ¬ v ≤ M := fun h1 h2 => by
  unfold inI at h
  rw [if_neg h1, if_neg (le_nlt h2)] at h
  exact absurd h (by decide)
theorem lt_le36 {v : Int32} (h : v < 36) : v ≤ 35 := by
  rw [Int32.lt_iff_toInt_lt] at h
  rw [Int32.le_iff_toInt_le]
  have a : (36 : Int32).toInt = 36 := by decide
  have b : (35 : Int32).toInt = 35 := by decide
  omega
theorem lt_le3 {v : Int32} (h : v < 3) : v ≤ 2 := by
  rw [Int32.lt_iff_toInt_lt] at h
  rw [Int32.le_iff_toInt_le]
  have a : (3 : Int32).toInt = 3 := by decide
  have b : (2 : Int32).toInt = 2 := by decide
  omega
theorem inI_bad36 {v : Int32} (h : inI v 0 35 = 0) : ¬ v < 0 → ¬ v < 36 := fun h1 h2 => inI_bad h h1 (lt_le36 h2)
theorem inI_bad3 {v : Int32} (h : inI v 0 2 = 0) : ¬ v < 0 → ¬ v < 3 := fun h1 h2 => inI_bad h h1 (lt_le3 h2)
theorem inI_yes {v lo M : Int32} (h : ¬ inI v lo M = 0) : ¬ v < lo ∧ v ≤ M := by
  unfold inI at h
  by_cases h1 : v < lo
  · rw [if_pos h1] at h; exact absurd rfl h
  · rw [if_neg h1] at h
    by_cases h2 : M < v
    · rw [if_pos h2] at h; exact absurd rfl h
    · exact ⟨h1, nlt_le h2⟩
theorem inI_nat {v M : Int32} {m : Nat} (hM : M.toInt = m) (h : ¬ inI v 0 M = 0) : ∃ c : Nat, c ≤ m ∧ v = nI c := nI_of2 hM (inI_yes h).1 (inI_yes h).2
theorem inI_out {v M : Int32} {m : Nat} (hM : M.toInt = m) (h : inI v 0 M = 0) : v.toInt < 0 ∨ (m : Int) < v.toInt := by
  by_cases h1 : v < 0
  · left
    rw [Int32.lt_iff_toInt_lt] at h1
    exact h1
  · right
    have h2 := inI_bad h h1
    rw [Int32.le_iff_toInt_le, hM] at h2
    omega
theorem okN_upd {N : Nat → Int32} {i : Nat} {v : Int32} (h : okN N) (hi : i < 150) (h1 : 6 ≤ i → i < 42 → ∃ d : Fin 8, v = nI d.val) (h2 : 114 ≤ i → ∃ d : Fin 8, v = nI d.val) (h3 : i = 5 → ∃ d : Fin 8, v = nI d.val) (h4 : 78 ≤ i → i < 114 → v = 0 ∨ v = 1) : okN (upd N i v) := by
  refine ⟨⟨fun c hc => ?_, fun c hc => ?_, ?_⟩, fun c hc => ?_, fun c hc => ?_, ?_⟩
  · by_cases z : 6 + c = i
    · rw [z, upd_s]; exact h1 (by omega) (by omega)
    · rw [upd_n z]; exact h.1.1 c hc
  · by_cases z : 114 + c = i
    · rw [z, upd_s]; exact h2 (by omega)
    · rw [upd_n z]; exact h.1.2.1 c hc
  · by_cases z : 5 = i
    · rw [z, upd_s]; exact h3 z.symm
    · rw [upd_n z]; exact h.1.2.2
  · by_cases z : 78 + c = i
    · rw [z, upd_s]; exact h4 (by omega) (by omega)
    · rw [upd_n z]; exact h.2.1 c hc
  · rw [upd_n (by omega)]; exact h.2.2.1 c hc
  · rw [cnI_cong (P2 := barP N) fun k hk => by unfold barP; rw [upd_n (by omega)]]; exact h.2.2.2
theorem okN_swap {N : Nat → Int32} {c o : Nat} (h : okN N) (hc : c < 36) (ho : o < 36) : okN (swpN N c o) := by
  unfold swpN
  refine okN_upd (okN_upd (okN_upd (okN_upd h (by omega) ?_ ?_ ?_ ?_) (by omega) ?_ ?_ ?_ ?_) (by omega) ?_ ?_ ?_ ?_) (by omega) ?_ ?_ ?_ ?_
  all_goals first
    | (intro a b; exact absurd b (by omega))
    | (intro a; exact absurd a (by omega))
    | (intro _ _; exact h.1.1 _ ho)
    | (intro _ _; exact h.1.1 _ hc)
theorem okN_bar {N : Nat → Int32} {c d : Nat} {t : Int32} (h : okN N) (hc : c < 36) (hd : d < 8) (h1 : ¬ t < 1) (h2 : t ≤ 50) (hb : N (150 + c) ≤ 0 → cnI (barP N) 36 < 6) : okN (barN N c (nI d) t) := by
  have ht : ∃ s : Nat, s ≤ 50 ∧ t = nI s := nI_of2 (n := 50) (by decide) (fun z => h1 (by
    rw [Int32.lt_iff_toInt_lt] at z ⊢
    have a : (0 : Int32).toInt = 0 := by decide
    have b : (1 : Int32).toInt = 1 := by decide
    omega)) h2
  obtain ⟨s, hs, rfl⟩ := ht
  have u : okU (barN N c (nI d) (nI s)) := okU.bar ⟨h.1, h.2.1, h.2.2.1⟩ hc hd hs
  refine ⟨u.1, u.2.1, u.2.2, ?_⟩
  by_cases z : N (150 + c) ≤ 0
  · have := barP_bar (N := N) (d := nI d) (t := nI s) hc
    have := hb z
    omega
  · rw [cnI_cong (P2 := barP N) fun k hk => ?_]
    · exact h.2.2.2
    · by_cases y : k = c
      · subst y
        rw [barP_t z, barP_t (by rw [barN_4]; exact t_pos h1)]
      · unfold barP; rw [barN_o (by omega) (by omega)]
theorem okN_unbar {N : Nat → Int32} {c : Nat} (h : okN N) (hc : c < 36) : okN (barN N c 0 0) := by
  have u : okU (barN N c (nI 0) (nI 0)) := okU.bar ⟨h.1, h.2.1, h.2.2.1⟩ hc (by omega) (by omega)
  have u : okU (barN N c 0 0) := u
  refine ⟨u.1, u.2.1, u.2.2, Nat.le_trans (cnI_mono fun k hk hp => ?_) h.2.2.2⟩
  by_cases y : k = c
  · subst y
    rw [barP_f (by rw [barN_4]; decide)] at hp
    exact absurd hp (by decide)
  · unfold barP at hp ⊢
    rw [barN_o (by omega) (by omega)] at hp
    exact hp
theorem okN_st0 {N : Nat → Int32} (h : okN N) {c : Nat} (hc : c < 36) (z : N (150 + c) ≤ 0) : N (150 + c) = 0 := by
  obtain ⟨q, hq, e⟩ := h.2.2.1 c hc
  rw [e] at z ⊢
  by_cases y : q = 0
  · rw [y]; rfl
  · exact absurd z (nI_nle (by omega) (by omega))
theorem okC_app {C : Nat → Int32} {n : Nat} {v : Int32} (h : okC C n) (h1 : ¬ v < 33) (h2 : v ≤ 126) : okC (upd C n v) (n + 1) := fun j hj => by
  by_cases z : j = n
  · subst z
    rw [upd_s]
    obtain ⟨m, hm, e⟩ := nI_of2 (x := v) (n := 126) (by decide) (fun z => h1 (by
      rw [Int32.lt_iff_toInt_lt] at z ⊢
      have a : (0 : Int32).toInt = 0 := by decide
      have b : (33 : Int32).toInt = 33 := by decide
      omega)) h2
    refine ⟨⟨m, by omega⟩, ?_, e⟩
    rw [e] at h1
    have := mt (nI_ltI (a := m) (b := 33) (by omega) (by omega)).mpr h1
    show 33 ≤ m
    omega
  · rw [upd_n z]; exact h j (by omega)
theorem hRel_un {P : Nat → Int32} {Rs : Nat → Nat → Int32} {a x : Nat} (h : hRel P Rs a x) (h0 : 0 < a) (ha : a ≤ 6) (hx : x < 6) : hRel P Rs (a - 1) (if 0 < x then x - 1 else 5) := fun j hj q hq => by
  rw [h j (by omega) q hq]
  congr 1
  split <;> omega
theorem hRel_last {P : Nat → Int32} {Rs : Nat → Nat → Int32} {a x : Nat} (h : hRel P Rs a x) (h0 : 0 < a) (ha : a ≤ 6) (hx : x < 6) : ∀ j, j < 186 → P (186 * (a - 1) + (j - 0)) = Rs (if 0 < x then x - 1 else 5) j := fun j hj => by
  rw [Nat.sub_zero, h (a - 1) (by omega) j hj]
  congr 1
  split <;> omega

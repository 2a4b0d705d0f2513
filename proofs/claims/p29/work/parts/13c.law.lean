theorem svA_le {a : Nat} (h : a ≤ 6) : svA a ≤ 6 := by unfold svA; split <;> omega
theorem svX_lt {x : Nat} : svX x < 6 := by unfold svX; split <;> omega
theorem svR_ok {N : Nat → Int32} {Rs : Nat → Nat → Int32} {x : Nat} (h : ∀ i, i < 6 → okN (Rs i)) (hO : okN N) : ∀ i, i < 6 → okN (svR N Rs x i) := fun i hi => by
  unfold svR
  split
  · exact hO
  · exact h i hi
theorem cW.keep {E : NE} {ad : Nat → Nat} {s9 s1 : NW} {N : Nat → Int32} {Rs : Nat → Nat → Int32} {a x : Nat} {C : Nat → Int32} {n : Nat} (h : cW E ad s9 N Rs a x C n) (hf : ∀ k, k < 208 → s1 k = s9 k) : cW E ad s1 N Rs a x C n := by
  obtain ⟨h1, h2, h3, h4, ⟨R0, h5⟩, h6, ⟨Tr, h7⟩, h8⟩ := h
  exact ⟨h1.keepP (fun k _ _ => hf k (by omega)) (by decide), h2.keepP (fun k _ _ => hf k (by omega)) (by decide), (hf 12 (by omega)).trans h3, h4.keepP (fun k _ _ => hf k (by omega)) (by decide), ⟨R0, h5.keepP (fun k _ _ => hf k (by omega)) (by decide)⟩, h6.keepP (fun k _ _ => hf k (by omega)) (by decide), ⟨Tr, h7.keepP (fun k _ _ => hf k (by omega)) (by decide)⟩, fun i hi => (h8 i hi).keepP (fun k _ _ => hf k (by omega)) (by decide)⟩
section QS
variable {l : Launch} {E : NE} {ad : Nat → Nat} {st : NW} {N : Nat → Int32} {Rs : Nat → Nat → Int32} {a x : Nat} {C : Nat → Int32} {n : Nat} {P : Nat → Int32} {th : Int32} {J : Nat → Nat → Int32} {v : Int64}
variable {yW yM : MethodName} {wsW wsM : List Cond} {rmW rmM : Room} {args : List Value}
end QS
theorem okN_upd {N : Nat → Int32} {i : Nat} {v : Int32} (h : okN N) (hi : i < 150) (h1 : 6 ≤ i → i < 42 → ∃ d : Fin 8, v = nI d.val) (h2 : 114 ≤ i → ∃ d : Fin 8, v = nI d.val) (h3 : i = 5 → ∃ d : Fin 8, v = nI d.val) (h4 : 78 ≤ i → i < 114 → v = 0 ∨ v = 1) : okN (upd N i v) := by
  refine ⟨⟨fun c hc => ?_, fun c hc => ?_, ?_⟩, fun c hc => ?_, fun c hc => ?_, ?_⟩
  · by_cases z : 6 + c = i
    · rw [z, upd_s]; exact h1 (by omega) (by omega)
    · rw [upd_n z]; exact h.1.1 c hc
  · by_cases z : 114 + c = i
    · rw [z, upd_s]; exact h2 (by omega)
    · rw [upd_n z]; exact h.1.2.1 c hc
  · by_cases z : 5 = i
    · rw [z, upd_s]; exact h3 z.symm
    · rw [upd_n z]; exact h.1.2.2
  · by_cases z : 78 + c = i
    · rw [z, upd_s]; exact h4 (by omega) (by omega)
    · rw [upd_n z]; exact h.2.1 c hc
  · rw [upd_n (by omega)]; exact h.2.2.1 c hc
  · rw [cnI_cong (P2 := barP N) fun k hk => by unfold barP; rw [upd_n (by omega)]]; exact h.2.2.2
theorem okN_swap {N : Nat → Int32} {c o : Nat} (h : okN N) (hc : c < 36) (ho : o < 36) : okN (swpN N c o) := by
  unfold swpN
  refine okN_upd (okN_upd (okN_upd (okN_upd h (by omega) ?_ ?_ ?_ ?_) (by omega) ?_ ?_ ?_ ?_) (by omega) ?_ ?_ ?_ ?_) (by omega) ?_ ?_ ?_ ?_
  all_goals first
    | (intro a b; exact absurd b (by omega))
    | (intro a; exact absurd a (by omega))
    | (intro _ _; exact h.1.1 _ ho)
    | (intro _ _; exact h.1.1 _ hc)
theorem okN_bar {N : Nat → Int32} {c d : Nat} {t : Int32} (h : okN N) (hc : c < 36) (hd : d < 8) (h1 : ¬ t < 1) (h2 : t ≤ 50) (hb : N (150 + c) ≤ 0 → cnI (barP N) 36 < 6) : okN (barN N c (nI d) t) := by
  have ht : ∃ s : Nat, s ≤ 50 ∧ t = nI s := nI_of2 (n := 50) (by decide) (fun z => h1 (by
    rw [Int32.lt_iff_toInt_lt] at z ⊢
    have a : (0 : Int32).toInt = 0 := by decide
    have b : (1 : Int32).toInt = 1 := by decide
    omega)) h2
  obtain ⟨s, hs, rfl⟩ := ht
  have u : okU (barN N c (nI d) (nI s)) := okU.bar ⟨h.1, h.2.1, h.2.2.1⟩ hc hd hs
  refine ⟨u.1, u.2.1, u.2.2, ?_⟩
  by_cases z : N (150 + c) ≤ 0
  · have := barP_bar (N := N) (d := nI d) (t := nI s) hc
    have := hb z
    omega
  · rw [cnI_cong (P2 := barP N) fun k hk => ?_]
    · exact h.2.2.2
    · by_cases y : k = c
      · subst y
        rw [barP_t z, barP_t (by rw [barN_4]; exact t_pos h1)]
      · unfold barP; rw [barN_o (by omega) (by omega)]
theorem okN_unbar {N : Nat → Int32} {c : Nat} (h : okN N) (hc : c < 36) : okN (barN N c 0 0) := by
  have u : okU (barN N c (nI 0) (nI 0)) := okU.bar ⟨h.1, h.2.1, h.2.2.1⟩ hc (by omega) (by omega)
  have u : okU (barN N c 0 0) := u
  refine ⟨u.1, u.2.1, u.2.2, Nat.le_trans (cnI_mono fun k hk hp => ?_) h.2.2.2⟩
  by_cases y : k = c
  · subst y
    rw [barP_f (by rw [barN_4]; decide)] at hp
    exact absurd hp (by decide)
  · unfold barP at hp ⊢
    rw [barN_o (by omega) (by omega)] at hp
    exact hp
theorem okN_st0 {N : Nat → Int32} (h : okN N) {c : Nat} (hc : c < 36) (z : N (150 + c) ≤ 0) : N (150 + c) = 0 := by
  obtain ⟨q, hq, e⟩ := h.2.2.1 c hc
  rw [e] at z ⊢
  by_cases y : q = 0
  · rw [y]; rfl
  · exact absurd z (nI_nle (by omega) (by omega))

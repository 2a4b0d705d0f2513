/-! a bar instead, other turns: the class's short ways -/
theorem smI_one {b : Int32} {f g : Nat → Int32} {j : Nat} : ∀ n : Nat, j < n → (∀ k, k < n → k ≠ j → g k = f k) → smI b g n = smI b f n - f j + g j
  | 0, h, _ => absurd h (by omega)
  | n + 1, h, e => by
    rw [smI_s, smI_s]
    by_cases z : n = j
    · subst z
      rw [smI_cong (g := f) fun k hk => e k (by omega) (by omega)]
      grind
    · rw [smI_one n (by omega) fun k hk => e k (by omega), e n (by omega) z]
      grind
theorem pull_0 {b d c : Int32} : pull b d 0 c = 0 := by
  have z : ∀ x : Int32, (0 : Int32) * 100 / x = 0 := fun x => by
    rw [Int32.zero_mul]
    exact Int32.zero_div
  unfold pull
  rw [z]
  split
  · rfl
  · split
    · decide
    · rfl
def barN (N : Nat → Int32) (j : Nat) (d t : Int32) : Nat → Int32 := upd (upd N (114 + j) d) (150 + j) t
theorem barN_lo {N : Nat → Int32} {j i : Nat} {d t : Int32} (h : i < 114) : barN N j d t i = N i := by
  unfold barN
  rw [upd_n (by omega), upd_n (by omega)]
theorem barN_3 {N : Nat → Int32} {j : Nat} {d t : Int32} (hj : j < 36) : barN N j d t (114 + j) = d := by
  unfold barN
  rw [upd_n (by omega), upd_s]
theorem barN_4 {N : Nat → Int32} {j : Nat} {d t : Int32} : barN N j d t (150 + j) = t := by
  unfold barN
  rw [upd_s]
theorem barN_o {N : Nat → Int32} {j i : Nat} {d t : Int32} (h : i ≠ 114 + j) (h2 : i ≠ 150 + j) : barN N j d t i = N i := by
  unfold barN
  rw [upd_n h2, upd_n h]
theorem okM.bar {N : Nat → Int32} (h : okM N) {j : Nat} {d : Nat} {t : Int32} (hd : d < 8) (hj : j < 36) : okM (barN N j (nI d) t) := by
  refine ⟨fun c hc => ?_, fun c hc => ?_, ?_⟩
  · rw [barN_lo (by omega)]; exact h.1 c hc
  · by_cases z : c = j
    · subst z; rw [barN_3 hc]; exact ⟨⟨d, hd⟩, rfl⟩
    · rw [barN_o (by omega) (by omega)]; exact h.2.1 c hc
  · rw [barN_lo (by omega)]; exact h.2.2
theorem okM.turns {N : Nat → Int32} (h : okM N) {t : Int32} : okM (upd N 4 t) := by
  refine ⟨fun c hc => ?_, fun c hc => ?_, ?_⟩
  · rw [upd_n (by omega)]; exact h.1 c hc
  · rw [upd_n (by omega)]; exact h.2.1 c hc
  · rw [upd_n (by omega)]; exact h.2.2
theorem bX_q {d t : Nat → Int32} {k c q : Nat} (hq : q ≤ 50) (h : t k = nI q) : bX d t k c = pull (nI k) (d k) (t k) (nI c) * acr (d k) := by
  by_cases z : q = 0
  · subst z
    have e : t k = 0 := h
    rw [bX_f (by rw [e]; decide), e, pull_0, Int32.zero_mul]
  · exact bX_t (by rw [h]; exact nI_nle (by omega) (by omega))
theorem bY_q {d t : Nat → Int32} {k c q : Nat} (hq : q ≤ 50) (h : t k = nI q) : bY d t k c = pull (nI k) (d k) (t k) (nI c) * dwn (d k) := by
  by_cases z : q = 0
  · subst z
    have e : t k = 0 := h
    rw [bY_f (by rw [e]; decide), e, pull_0, Int32.zero_mul]
  · exact bY_t (by rw [h]; exact nI_nle (by omega) (by omega))
theorem smI_sh {g : Nat → Int32} {n : Nat} {b x y : Int32} : smI (b - x + y) g n = smI b g n - x + y := by
  rw [smI_base, Int32.sub_eq_add_neg, smI_base, ← Int32.sub_eq_add_neg]
theorem gN11_bar {N : Nat → Int32} {c j : Nat} {d t : Int32} (hj : j < 36) (hS : ∃ q : Nat, q ≤ 50 ∧ N (150 + j) = nI q) (ht : ¬ t ≤ 0) : gN (barN N j d t) 11 c = gN N 11 c - pull (nI j) (N (114 + j)) (N (150 + j)) (nI c) * acr (N (114 + j)) + pull (nI j) d t (nI c) * acr d := by
  obtain ⟨q, hq, hs⟩ := hS
  rw [gN11, gN11]
  have e1 : barN N j d t 1 = N 1 := barN_lo (by omega)
  have e4 : barN N j d t 4 = N 4 := barN_lo (by omega)
  have e5 : barN N j d t 5 = N 5 := barN_lo (by omega)
  rw [e1, e4, e5]
  have eN : ∀ k, k < 36 → (if nbr k c = true then gB (barN N j d t) 5 2 * acr (gB (barN N j d t) 0 k) else 0) = (if nbr k c = true then gB N 5 2 * acr (gB N 0 k) else 0) := fun k hk => by
    have a : gB (barN N j d t) 5 2 = gB N 5 2 := (mk_in (f := barN N j d t) (by decide)).trans ((barN_lo (by omega)).trans (mk_in (f := N) (by decide)).symm)
    have b : gB (barN N j d t) 0 k = gB N 0 k := (mk_in (f := fun i => barN N j d t (6 + i)) hk).trans ((barN_lo (by omega)).trans (mk_in (f := fun i => N (6 + i)) hk).symm)
    rw [a, b]
  rw [smI_cong eN, smI_one (f := fun k => bX (gB N 3) (gB N 4) k c) (g := fun k => bX (gB (barN N j d t) 3) (gB (barN N j d t) 4) k c) (j := j) 36 hj (fun k hk hkj => ?_), smI_sh]
  · have n3 : gB (barN N j d t) 3 j = d := (mk_in (f := fun i => barN N j d t (114 + i)) hj).trans (barN_3 hj)
    have n4 : gB (barN N j d t) 4 j = t := (mk_in (f := fun i => barN N j d t (150 + i)) hj).trans barN_4
    have o3 : gB N 3 j = N (114 + j) := mk_in (f := fun i => N (114 + i)) hj
    have o4 : gB N 4 j = N (150 + j) := mk_in (f := fun i => N (150 + i)) hj
    rw [bX_t (d := gB (barN N j d t) 3) (t := gB (barN N j d t) 4) (by rw [n4]; exact ht), n3, n4, bX_q hq (o4.trans hs), o3, o4]
  · have n3 : gB (barN N j d t) 3 k = gB N 3 k := (mk_in (f := fun i => barN N j d t (114 + i)) hk).trans ((barN_o (by omega) (by omega)).trans (mk_in (f := fun i => N (114 + i)) hk).symm)
    have n4 : gB (barN N j d t) 4 k = gB N 4 k := (mk_in (f := fun i => barN N j d t (150 + i)) hk).trans ((barN_o (by omega) (by omega)).trans (mk_in (f := fun i => N (150 + i)) hk).symm)
    show bX _ _ k c = bX _ _ k c
    unfold bX
    rw [n3, n4]
theorem gN12_bar {N : Nat → Int32} {c j : Nat} {d t : Int32} (hj : j < 36) (hS : ∃ q : Nat, q ≤ 50 ∧ N (150 + j) = nI q) (ht : ¬ t ≤ 0) : gN (barN N j d t) 12 c = gN N 12 c - pull (nI j) (N (114 + j)) (N (150 + j)) (nI c) * dwn (N (114 + j)) + pull (nI j) d t (nI c) * dwn d := by
  obtain ⟨q, hq, hs⟩ := hS
  rw [gN12, gN12]
  have e0 : barN N j d t 0 = N 0 := barN_lo (by omega)
  have e1 : barN N j d t 1 = N 1 := barN_lo (by omega)
  have e4 : barN N j d t 4 = N 4 := barN_lo (by omega)
  have e5 : barN N j d t 5 = N 5 := barN_lo (by omega)
  rw [e0, e1, e4, e5]
  have eN : ∀ k, k < 36 → (if nbr k c = true then gB (barN N j d t) 5 2 * dwn (gB (barN N j d t) 0 k) else 0) = (if nbr k c = true then gB N 5 2 * dwn (gB N 0 k) else 0) := fun k hk => by
    have a : gB (barN N j d t) 5 2 = gB N 5 2 := (mk_in (f := barN N j d t) (by decide)).trans ((barN_lo (by omega)).trans (mk_in (f := N) (by decide)).symm)
    have b : gB (barN N j d t) 0 k = gB N 0 k := (mk_in (f := fun i => barN N j d t (6 + i)) hk).trans ((barN_lo (by omega)).trans (mk_in (f := fun i => N (6 + i)) hk).symm)
    rw [a, b]
  rw [smI_cong eN, smI_one (f := fun k => bY (gB N 3) (gB N 4) k c) (g := fun k => bY (gB (barN N j d t) 3) (gB (barN N j d t) 4) k c) (j := j) 36 hj (fun k hk hkj => ?_), smI_sh]
  · have n3 : gB (barN N j d t) 3 j = d := (mk_in (f := fun i => barN N j d t (114 + i)) hj).trans (barN_3 hj)
    have n4 : gB (barN N j d t) 4 j = t := (mk_in (f := fun i => barN N j d t (150 + i)) hj).trans barN_4
    have o3 : gB N 3 j = N (114 + j) := mk_in (f := fun i => N (114 + i)) hj
    have o4 : gB N 4 j = N (150 + j) := mk_in (f := fun i => N (150 + i)) hj
    rw [bY_t (d := gB (barN N j d t) 3) (t := gB (barN N j d t) 4) (by rw [n4]; exact ht), n3, n4, bY_q hq (o4.trans hs), o3, o4]
  · have n3 : gB (barN N j d t) 3 k = gB N 3 k := (mk_in (f := fun i => barN N j d t (114 + i)) hk).trans ((barN_o (by omega) (by omega)).trans (mk_in (f := fun i => N (114 + i)) hk).symm)
    have n4 : gB (barN N j d t) 4 k = gB N 4 k := (mk_in (f := fun i => barN N j d t (150 + i)) hk).trans ((barN_o (by omega) (by omega)).trans (mk_in (f := fun i => N (150 + i)) hk).symm)
    show bY _ _ k c = bY _ _ k c
    unfold bY
    rw [n3, n4]
theorem gIB_m {N : Nat → Int32} (h : okN N) {c j d : Nat} {t : Int32} (hc : c < 36) (hj : j < 36) (hd : d < 8) (ht : ¬ t ≤ 0) : gIB (gN N) c j (nI d) t = mAim (barN N j (nI d) t) c := by
  rw [mAim_g (h.1.bar hd hj) hc]
  unfold gIB gAim
  rw [gN11_bar hj (h.2.2.1 j hj) ht, gN12_bar hj (h.2.2.1 j hj) ht, gN3 hj, gN4 hj]
theorem gN11_turns {N : Nat → Int32} {c : Nat} {t : Int32} : gN (upd N 4 t) 11 c = gN N 11 c + N 1 * (t - N 4) * acr (N 5) := by
  rw [gN11, gN11]
  have e1 : upd N 4 t 1 = N 1 := upd_n (by omega)
  have e4 : upd N 4 t 4 = t := upd_s
  have e5 : upd N 4 t 5 = N 5 := upd_n (by omega)
  have g0 : gB (upd N 4 t) 0 = gB N 0 := mk_off (n := 36) (o := 6) (by omega)
  have g3 : gB (upd N 4 t) 3 = gB N 3 := mk_off (n := 36) (o := 114) (by omega)
  have g4 : gB (upd N 4 t) 4 = gB N 4 := mk_off (n := 36) (o := 150) (by omega)
  have g5 : gB (upd N 4 t) 5 = gB N 5 := mk_off0 (n := 3) (by omega)
  rw [e1, e4, e5, g0, g3, g4, g5, ← smI_base, ← smI_base]
  congr 2
  grind
theorem gN12_turns {N : Nat → Int32} {c : Nat} {t : Int32} : gN (upd N 4 t) 12 c = gN N 12 c + N 1 * (t - N 4) * dwn (N 5) := by
  rw [gN12, gN12]
  have e0 : upd N 4 t 0 = N 0 := upd_n (by omega)
  have e1 : upd N 4 t 1 = N 1 := upd_n (by omega)
  have e4 : upd N 4 t 4 = t := upd_s
  have e5 : upd N 4 t 5 = N 5 := upd_n (by omega)
  have g0 : gB (upd N 4 t) 0 = gB N 0 := mk_off (n := 36) (o := 6) (by omega)
  have g3 : gB (upd N 4 t) 3 = gB N 3 := mk_off (n := 36) (o := 114) (by omega)
  have g4 : gB (upd N 4 t) 4 = gB N 4 := mk_off (n := 36) (o := 150) (by omega)
  have g5 : gB (upd N 4 t) 5 = gB N 5 := mk_off0 (n := 3) (by omega)
  rw [e0, e1, e4, e5, g0, g3, g4, g5, ← smI_base, ← smI_base]
  congr 2
  grind
theorem gIT_m {N : Nat → Int32} (h : okN N) {c : Nat} {t : Int32} (hc : c < 36) : gIT (gN N) c t = mAim (upd N 4 t) c := by
  rw [mAim_g h.1.turns hc]
  unfold gIT gAim
  rw [gN11_turns, gN12_turns, gN6, gN7, gN5 (by decide)]
theorem rstm_t {N : Nat → Int32} (h : okN N) {i : Nat} {r : Int32} (hr : r = nI (cnI (mTP (itN N i)) 36)) (c : r = 0) : rstP N i = true := by
  have e := (nI_eq (a := cnI (mTP (itN N i)) 36) (b := 0) (by have := cnI_le (mTP (itN N i)) 36; omega) (by omega)).mp (hr.symm.trans c)
  unfold rstP
  rw [← taN_m (h.it i), e]
  rfl
theorem rstm_f {N : Nat → Int32} (h : okN N) {i : Nat} {r : Int32} (hr : r = nI (cnI (mTP (itN N i)) 36)) (c : ¬ r = 0) : rstP N i = false := by
  unfold rstP
  rw [← taN_m (h.it i)]
  exact decide_eq_false (fun e => c (by rw [hr, e]; rfl))
theorem ifbm_t {N : Nat → Int32} (h : okN N) {c k d : Nat} {t r q : Int32} (hc : c < 36) (hk : k < 36) (hd : d < 8) (ht : ¬ t ≤ 0) (hr : r = mAim (barN N c (nI d) t) k) (hq : q = mAim N k) (z : ¬ r = q) : ifbG (gN N) c (nI d) t k = true :=
  ifbG_t (fun e => z (by rw [hr, hq, ← gIB_m h hk hc hd ht, mAim_g h.1 hk]; exact e))
theorem ifbm_f {N : Nat → Int32} (h : okN N) {c k d : Nat} {t r q : Int32} (hc : c < 36) (hk : k < 36) (hd : d < 8) (ht : ¬ t ≤ 0) (hr : r = mAim (barN N c (nI d) t) k) (hq : q = mAim N k) (z : r = q) : ifbG (gN N) c (nI d) t k = false :=
  ifbG_f (by rw [gIB_m h hk hc hd ht, ← mAim_g h.1 hk, ← hr, ← hq]; exact z)
theorem bstm {N : Nat → Int32} (h : okN N) {c i : Nat} {d t r : Int32} (hc : c < 36) (hi : i < 288) (ht : ¬ t ≤ 0) (hr : r = mAim (barN N (i / 8) (nI (i % 8)) t) c) : bstG (gN N) c d t i = decide (r = d) := by
  unfold bstG
  rw [gIB_m h hc (by omega) (by omega) ht, hr]
theorem lstm {N : Nat → Int32} (h : okN N) {c i : Nat} {r : Int32} (hc : c < 36) (hr : r = mAim (upd N 4 (nI i)) c) : lstG (gN N) c i = decide (r = N 5) := by
  unfold lstG
  rw [gIT_m h hc, gN7, hr]
theorem barN_id {N : Nat → Int32} {j : Nat} {d t : Int32} (hj : j < 36) : barN (barN N j d t) j (N (114 + j)) (N (150 + j)) = N := by
  funext i
  unfold barN
  by_cases z : i = 150 + j
  · subst z; rw [upd_s]
  · rw [upd_n z]
    by_cases y : i = 114 + j
    · subst y; rw [upd_s]
    · rw [upd_n y, upd_n z, upd_n y]
theorem upd_id {N : Nat → Int32} {i : Nat} : upd N i (N i) = N := by
  funext j
  by_cases z : j = i
  · subst z; rw [upd_s]
  · rw [upd_n z]
theorem upd_upd {N : Nat → Int32} {i : Nat} {x y : Int32} : upd (upd N i x) i y = upd N i y := by
  funext j
  by_cases z : j = i
  · subst z; rw [upd_s, upd_s]
  · rw [upd_n z, upd_n z, upd_n z]
def alP (N : Nat → Int32) : Nat → Bool := fun k => !decide (mAw N k = -1)
def obP (N : Nat → Int32) : Nat → Bool := fun k => decide (mAw N k = 0)
theorem alP_t {N : Nat → Int32} {k : Nat} (h : ¬ mAw N k = -1) : alP N k = true := by unfold alP; rw [decide_eq_false h]; rfl
theorem alP_f {N : Nat → Int32} {k : Nat} (h : mAw N k = -1) : alP N k = false := by unfold alP; rw [decide_eq_true h]; rfl
theorem obP_t {N : Nat → Int32} {k : Nat} (h : mAw N k = 0) : obP N k = true := decide_eq_true h
theorem obP_f {N : Nat → Int32} {k : Nat} (h : ¬ mAw N k = 0) : obP N k = false := decide_eq_false h
theorem al_g {N : Nat → Int32} (h : okN N) : cnI (alP N) 36 = aimC N := by
  unfold aimC
  refine cnI_cong fun k hk => ?_
  unfold alP
  rw [mAw_g h hk]
  have e := gAw_n h hk
  by_cases z : gAim (gN N) k = -1
  · rw [decide_eq_true z, decide_eq_true (e.mpr z)]
  · rw [decide_eq_false z, decide_eq_false (fun q => z (e.mp q))]
theorem ob_g {N : Nat → Int32} (h : okN N) : cnI (obP N) 36 = obeC N := by
  unfold obeC
  refine cnI_cong fun k hk => ?_
  unfold obP
  rw [mAw_g h hk]
  have e := gAw_0 h hk
  by_cases z : gAim (gN N) k = gN N 0 k
  · rw [decide_eq_true z, decide_eq_true (e.mpr z)]
  · rw [decide_eq_false z, decide_eq_false (fun q => z (e.mp q))]

/-! bars out of a text -/
theorem fErr_of {C : Nat → Int32} {n q : Nat} (hq : q ≤ n) (hg : ∀ j, j < q → takeB (rdS r00 C j) (C j) ≠ 0) (hb : q < n → takeB (rdS r00 C q) (C q) = 0) : fErr C n = q := by
  have key : ∀ d i : Nat, i + d = q → goodS r00 C n (n - i) i = q := by
    intro d
    induction d with
    | zero =>
      intro i hi
      have e : i = q := by omega
      subst e
      by_cases z : i < n
      · exact goodS_no z (by omega) (hb z)
      · have e : n = i := by omega
        subst e
        exact goodS_end
    | succ d ih =>
      intro i hi
      rw [goodS_yes (by omega) (hg i (by omega))]
      exact ih (i + 1) (by omega)
  exact key q 0 (by omega)
def gudTo (C : Nat → Int32) (p : Nat) : Prop := ∀ j, j < p → takeB (rdS r00 C j) (C j) ≠ 0
theorem prtB.err {C : Nat → Int32} {n p q : Nat} (h : prtB C n p q) (hg : gudTo C p) : fErr C n = q ∧ ¬ cmpl C n := by
  obtain ⟨h1, h2, h3, h4, h5⟩ := h
  have e : fErr C n = q := fErr_of h2 (fun j hj => if z : j < p then hg j z else h3 j (by omega) hj) h4
  refine ⟨e, fun z => ?_⟩
  have : q = n := e.symm.trans z.1
  subst this
  exact h5 z.2
theorem prtY.gud {C : Nat → Int32} {n p q c d s : Nat} (h : prtY C n p q c d s) (hg : gudTo C p) : gudTo C q := fun j hj => if z : j < p then hg j z else (h.2.2.1 j (by omega) hj).1
/-- the last part, and then something that can't stand there -/
theorem prtY.end {C : Nat → Int32} {n p q c d s k : Nat} (h : prtY C n p q c d s) (hg : gudTo C p) (hk : rdS r00 C p 1 = nI (k + 1)) (hk6 : k + 1 ≤ 6) (hm : q < n → C q = 59 → k + 1 = 6) : fErr C n = q := by
  refine fErr_of h.2.1 (h.gud hg) fun hq => ?_
  by_cases z : C q = 59
  · obtain ⟨r0, r1, _⟩ := h.2.2.2.1
    have e := hm hq z
    rw [tB4 r0, if_pos z, r1, hk, e]
    decide
  · exact h.2.2.2.2.2 hq z
theorem prtY.cmp {C : Nat → Int32} {n p c d s : Nat} (h : prtY C n p n c d s) (hg : gudTo C p) : cmpl C n := ⟨fErr_of (Nat.le_refl _) (h.gud hg) (fun z => absurd z (by omega)), h.2.2.2.1.1⟩
theorem prtY.ncmp {C : Nat → Int32} {n p q c d s k : Nat} (h : prtY C n p q c d s) (hg : gudTo C p) (hk : rdS r00 C p 1 = nI (k + 1)) (hk6 : k + 1 ≤ 6) (hm : q < n → C q = 59 → k + 1 = 6) (hqn : ¬ q = n) : ¬ cmpl C n := fun z => hqn ((h.end hg hk hk6 hm).symm.trans z.1)
/-- a ';' goes on with the next part -/
theorem prtY.nxt {C : Nat → Int32} {n p q c d s k : Nat} (h : prtY C n p q c d s) (hg : gudTo C p) (hk : rdS r00 C p 1 = nI (k + 1)) (hk6 : k + 1 < 6) (hq : q < n) (z : C q = 59) : gudTo C (q + 1) ∧ rdS r00 C (q + 1) 0 = 0 ∧ rdS r00 C (q + 1) 1 = nI (k + 1 + 1) := by
  obtain ⟨r0, r1, _⟩ := h.2.2.2.1
  have g : takeB (rdS r00 C q) (C q) ≠ 0 := by
    rw [tB4 r0, if_pos z, r1, hk, nI_1, if_neg (by intro y; have := (nI_ltI (a := 6) (b := k + 1 + 1) (by omega) (by omega)).mp y; omega)]
    decide
  refine ⟨fun j hj => if y : j < q then h.gud hg j y else by rw [show j = q by omega]; exact g, ?_⟩
  have e : rdS r00 C (q + 1) = takeR (rdS r00 C q) (C q) := rfl
  rw [e]
  unfold takeR
  rw [if_neg (by rw [r0]; decide), if_neg (by rw [r0]; decide), if_neg (by rw [r0]; decide), if_neg (by rw [r0]; decide), if_pos z]
  refine ⟨rfl, ?_⟩
  show rdS r00 C q 1 + 1 = _
  rw [r1, hk, nI_1]
def layK (T : Nat → Int32) : Nat → (Nat → Int32) → Nat → Int32
  | 0, M => M
  | k + 1, M => barN (layK T k M) (T (3 * k)).toNatClampNeg (T (3 * k + 1)) (T (3 * k + 2))
def tOK (T : Nat → Int32) (k : Nat) : Prop := ∀ j, j < k → ∃ c d s : Nat, c < 36 ∧ d < 8 ∧ 1 ≤ s ∧ s ≤ 50 ∧ T (3 * j) = nI c ∧ T (3 * j + 1) = nI d ∧ T (3 * j + 2) = nI s
theorem layK_s {T M : Nat → Int32} {i c d s : Nat} (hc : c < 36) (e1 : T (3 * i) = nI c) (e2 : T (3 * i + 1) = nI d) (e3 : T (3 * i + 2) = nI s) : layK T (i + 1) M = barN (layK T i M) c (nI d) (nI s) := by
  show barN (layK T i M) (T (3 * i)).toNatClampNeg (T (3 * i + 1)) (T (3 * i + 2)) = _
  rw [e1, e2, e3, nI_clamp (by omega)]
theorem layK_cong {T T2 M : Nat → Int32} : ∀ k : Nat, (∀ j, j < 3 * k → T j = T2 j) → layK T k M = layK T2 k M
  | 0, _ => rfl
  | k + 1, h => by
    show barN (layK T k M) (T (3 * k)).toNatClampNeg (T (3 * k + 1)) (T (3 * k + 2)) = barN (layK T2 k M) (T2 (3 * k)).toNatClampNeg (T2 (3 * k + 1)) (T2 (3 * k + 2))
    rw [layK_cong k fun j hj => h j (by omega), h (3 * k) (by omega), h (3 * k + 1) (by omega), h (3 * k + 2) (by omega)]
def putT (T : Nat → Int32) (k c d s : Nat) : Nat → Int32 := upd (upd (upd T (3 * k) (nI c)) (3 * k + 1) (nI d)) (3 * k + 2) (nI s)
theorem putT_o {T : Nat → Int32} {k c d s j : Nat} (h : j < 3 * k) : putT T k c d s j = T j := by unfold putT; rw [upd_n (by omega), upd_n (by omega), upd_n (by omega)]
theorem putT_0 {T : Nat → Int32} {k c d s : Nat} : putT T k c d s (3 * k) = nI c := by unfold putT; rw [upd_n (by omega), upd_n (by omega), upd_s]
theorem putT_1 {T : Nat → Int32} {k c d s : Nat} : putT T k c d s (3 * k + 1) = nI d := by unfold putT; rw [upd_n (by omega), upd_s]
theorem putT_2 {T : Nat → Int32} {k c d s : Nat} : putT T k c d s (3 * k + 2) = nI s := by unfold putT; rw [upd_s]
theorem tOK.put {T : Nat → Int32} {k c d s : Nat} (h : tOK T k) (hc : c < 36) (hd : d < 8) (h1 : 1 ≤ s) (h2 : s ≤ 50) : tOK (putT T k c d s) (k + 1) := fun j hj => by
  by_cases z : j = k
  · subst z; exact ⟨c, d, s, hc, hd, h1, h2, putT_0, putT_1, putT_2⟩
  · obtain ⟨c2, d2, s2, q1, q2, q3, q4, q5, q6, q7⟩ := h j (by omega)
    exact ⟨c2, d2, s2, q1, q2, q3, q4, (putT_o (by omega)).trans q5, (putT_o (by omega)).trans q6, (putT_o (by omega)).trans q7⟩
theorem laysN_skip {C M : Nat → Int32} {p : Nat} : ∀ q : Nat, p ≤ q → (∀ j, p ≤ j → j < q → ¬ C j = 59) → laysN r00 C M q = laysN r00 C M p
  | 0, h, _ => by rw [show p = 0 by omega]
  | q + 1, h, hc => by
    by_cases z : p = q + 1
    · rw [z]
    · simp only [laysN]
      rw [if_neg (hc q (by omega) (by omega))]
      exact laysN_skip q (by omega) fun j h1 h2 => hc j h1 (by omega)
theorem prtY.lay {C M T : Nat → Int32} {n p q c d s k : Nat} (h : prtY C n p q c d s) (hl : laysN r00 C M p = layK T k M) : layN (rdS r00 C q) (laysN r00 C M q) = layK (putT T k c d s) (k + 1) M := by
  obtain ⟨h1, h2, h3, ⟨r0, r1, rc, r4, r5⟩, ⟨hc, hd, s1, s2⟩, _⟩ := h
  rw [laysN_skip q (by omega) fun j a b => (h3 j a b).2, hl, layK_s hc putT_0 putT_1 putT_2, layK_cong (T2 := putT T k c d s) k fun j hj => (putT_o hj).symm]
  unfold layN
  rw [rc, r4, r5, if_neg (nI_pos (by omega)), if_neg (by intro y; have := (nI_leI (a := 36) (b := c) (by omega) (by omega)).mp y; omega), nI_clamp (by omega)]
  rfl
theorem laysN_59 {C M : Nat → Int32} {q : Nat} (z : C q = 59) : laysN r00 C M (q + 1) = layN (rdS r00 C q) (laysN r00 C M q) := by
  simp only [laysN]
  rw [if_pos z]
/-- no bars, cell by cell -/
def clrN (N : Nat → Int32) : Nat → Nat → Int32
  | 0 => N
  | i + 1 => barN (clrN N i) i 0 0
theorem clrN_at {N : Nat → Int32} : ∀ i j : Nat, i ≤ 36 → clrN N i j = if (114 ≤ j ∧ j < 114 + i) ∨ (150 ≤ j ∧ j < 150 + i) then 0 else N j
  | 0, j, _ => by rw [if_neg (by omega)]; rfl
  | i + 1, j, hi => by
    show barN (clrN N i) i 0 0 j = _
    by_cases z : j = 150 + i
    · subst z; rw [barN_4, if_pos (by omega)]
    · by_cases y : j = 114 + i
      · subst y; rw [barN_3 (by omega), if_pos (by omega)]
      · rw [barN_o y z, clrN_at i j (by omega)]
        by_cases x : (114 ≤ j ∧ j < 114 + i) ∨ (150 ≤ j ∧ j < 150 + i)
        · rw [if_pos x, if_pos (by omega)]
        · rw [if_neg x, if_neg (by omega)]
theorem clrN_36 {N : Nat → Int32} : clrN N 36 = takN N := by
  funext j
  rw [clrN_at 36 j (Nat.le_refl _)]
  unfold takN
  by_cases x : 114 ≤ j ∧ j < 186
  · rw [if_pos x, if_pos (by omega)]
  · rw [if_neg x, if_neg (by omega)]
/-- directions, held, strengths: all but the number of bars -/
def okU (S : Nat → Int32) : Prop := okM S ∧ okH S ∧ (∀ c, c < 36 → ∃ q : Nat, q ≤ 50 ∧ S (150 + c) = nI q)
theorem okU.bar {N : Nat → Int32} (h : okU N) {j d s : Nat} (hj : j < 36) (hd : d < 8) (hs : s ≤ 50) : okU (barN N j (nI d) (nI s)) := by
  refine ⟨h.1.bar hd hj, fun c hc => ?_, fun c hc => ?_⟩
  · rw [barN_lo (by omega)]; exact h.2.1 c hc
  · by_cases z : c = j
    · subst z; rw [barN_4]; exact ⟨s, hs, rfl⟩
    · rw [barN_o (by omega) (by omega)]; exact h.2.2 c hc
theorem cnI_one {P Q : Nat → Bool} {j : Nat} : ∀ n : Nat, (∀ k, k < n → k ≠ j → Q k = P k) → cnI Q n ≤ cnI P n + 1
  | 0, _ => by simp [cnI]
  | n + 1, h => by
    have i1 := cnI_one n fun k hk => h k (by omega)
    by_cases z : n = j
    · subst z
      have e : cnI Q n = cnI P n := cnI_cong fun k hk => h k (by omega) (by omega)
      simp only [cnI]
      rw [e]
      split <;> split <;> omega
    · simp only [cnI]
      rw [h n (by omega) z]
      split <;> omega
theorem barP_bar {N : Nat → Int32} {j : Nat} {d t : Int32} (hj : j < 36) : cnI (barP (barN N j d t)) 36 ≤ cnI (barP N) 36 + 1 := cnI_one (j := j) 36 fun k hk z => by
  unfold barP
  rw [barN_o (by omega) (by omega)]
theorem layK_ok {T M : Nat → Int32} (hM : okU M) : ∀ k : Nat, tOK T k → okU (layK T k M) ∧ cnI (barP (layK T k M)) 36 ≤ cnI (barP M) 36 + k
  | 0, _ => ⟨hM, Nat.le_refl _⟩
  | k + 1, h => by
    obtain ⟨i1, i2⟩ := layK_ok hM k fun j hj => h j (by omega)
    obtain ⟨c, d, s, hc, hd, h1, h2, e1, e2, e3⟩ := h k (by omega)
    rw [layK_s hc e1 e2 e3]
    exact ⟨i1.bar hc hd h2, by have := barP_bar (N := layK T k M) (j := c) (d := nI d) (t := nI s) hc; omega⟩
theorem takN_ok {N : Nat → Int32} (h : okN N) : okU (takN N) ∧ cnI (barP (takN N)) 36 = 0 := by
  have lo : ∀ i, i < 114 → takN N i = N i := fun i hi => by unfold takN; rw [if_neg (by omega)]
  have z : ∀ i, 114 ≤ i → i < 186 → takN N i = 0 := fun i h1 h2 => by unfold takN; rw [if_pos ⟨h1, h2⟩]
  refine ⟨⟨⟨fun c hc => ?_, fun c hc => ?_, ?_⟩, fun c hc => ?_, fun c hc => ?_⟩, ?_⟩
  · rw [lo _ (by omega)]; exact h.1.1 c hc
  · rw [z _ (by omega) (by omega)]; exact ⟨0, rfl⟩
  · rw [lo _ (by omega)]; exact h.1.2.2
  · rw [lo _ (by omega)]; exact h.2.1 c hc
  · rw [z _ (by omega) (by omega)]; exact ⟨0, by omega, rfl⟩
  · have e : ∀ n, n ≤ 36 → cnI (barP (takN N)) n = 0 := by
      intro n
      induction n with
      | zero => intro _; rfl
      | succ n ih => intro hn; rw [cnI_f (barP_f (by rw [z _ (by omega) (by omega)]; decide)), ih (by omega)]
    exact e 36 (Nat.le_refl _)
theorem brs_ok {N T : Nat → Int32} {k : Nat} (h : okN N) (hk : k ≤ 6) (ht : tOK T k) : okN (layK T k (takN N)) := by
  obtain ⟨a, z⟩ := takN_ok h
  obtain ⟨b1, b2⟩ := layK_ok a k ht
  exact ⟨b1.1, b1.2.1, b1.2.2, by omega⟩
theorem ten_sum {s z : Nat} : 10 * nI (s + 1) + nI (48 + z) - 48 = nI (10 * (s + 1) + z) := by
  rw [show (10 : Int32) * nI (s + 1) = nI (10 * (s + 1)) from pk_mul 10 (s + 1), nI_add, nI_subL (N := 48) (n := 48) rfl (by omega)]
  congr 1
  omega
theorem cel_sum {a c : Nat} : 0 + 1 * (nI (48 + a) - 48) + 6 * (nI (48 + c) - 48) = nI (a + 6 * c) := by
  rw [sub48, sub48, show (6 : Int32) * nI c = nI (6 * c) from pk_mul 6 c, Int32.one_mul, Int32.zero_add, nI_add]
theorem stF_0 {p n : Nat} (h : n ≤ p) : stF p n = 0 := by unfold stF; rw [if_pos h]
theorem stF_1 {p n : Nat} (h : ¬ n ≤ p) : stF p n = 1 := by unfold stF; rw [if_neg h]
/-- at, isFault, told, tolds -/
def tG (G : Nat → Nat → Int32) (p : Nat) (f : Int32) (T : Nat → Int32) (k : Nat) : Nat → Nat → Int32 := gu (gu (gu (gu G 7 (fun _ => nI p)) 8 (fun _ => f)) 9 T) 10 (fun _ => nI k)

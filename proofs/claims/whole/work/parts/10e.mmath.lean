theorem svP_l {P N : Nat → Int32} {kp : Nat} (h : kp < 6) : svP P kp N = cpI N P 0 (186 * kp) 186 := by unfold svP; rw [if_pos h]
theorem svP_6 {P N : Nat → Int32} : svP P 6 N = cpI N (shP P 930) 0 (186 * 5) 186 := by unfold svP; rw [if_neg (by decide)]
theorem svA_l {kp : Nat} (h : kp < 6) : svA kp = kp + 1 := by unfold svA; rw [if_pos h]
theorem inI_ok {v a b : Int32} (h1 : ¬ v < a) (h2 : ¬ b < v) : ¬ inI v a b = 0 := by unfold inI; rw [if_neg h1, if_neg h2]; decide
theorem nlt_le {a b : Int32} (h : ¬ b < a) : a ≤ b := by
  rw [Int32.lt_iff_toInt_lt] at h
  rw [Int32.le_iff_toInt_le]
  omega
theorem inI_n {c b : Nat} {M : Int32} (hM : M = nI b) (h : c ≤ b) (hb : b < 2 ^ 31) : ¬ inI (nI c) 0 M = 0 := inI_ok (nI_pos (by omega)) (by rw [hM]; exact le_nlt (nI_le h hb))
theorem cell_ok {c : Nat} (h : c < 36) : ¬ inI (nI c) 0 35 = 0 := inI_n (b := 35) rfl (by omega) (by decide)
theorem dir_ok {c : Nat} (h : c < 8) : ¬ inI (nI c) 0 7 = 0 := inI_n (b := 7) rfl (by omega) (by decide)
theorem bar_ok {d : Nat} {t : Int32} (h : d < 8) (h1 : ¬ t < 1) (h2 : t ≤ 50) : ¬ (if inI (nI d) 0 7 = 0 then (0 : Int32) else if inI t 1 50 = 0 then 0 else 1) = 0 := by
  rw [if_neg (dir_ok h), if_neg (inI_ok h1 (le_nlt h2))]
  decide
theorem upd_comm {f : Nat → Int32} {i j : Nat} {x y : Int32} (h : i ≠ j) : upd (upd f i x) j y = upd (upd f j y) i x := by
  funext q
  by_cases h1 : q = j
  · subst h1; rw [upd_s, upd_n (fun z => h z.symm), upd_s]
  · rw [upd_n h1]
    by_cases h2 : q = i
    · subst h2; rw [upd_s, upd_s]
    · rw [upd_n h2, upd_n h2, upd_n h1]
theorem mswp {N : Nat → Int32} {c o : Nat} (hc : c < 36) (ho : o < 36) : upd (upd (upd (upd N (6 + c) (N (6 + o))) (6 + o) (N (6 + c))) (42 + c) (upd (upd N (6 + c) (N (6 + o))) (6 + o) (N (6 + c)) (42 + o))) (42 + o) (upd (upd N (6 + c) (N (6 + o))) (6 + o) (N (6 + c)) (42 + c)) = swpN N c o := by
  unfold swpN
  rw [upd_n (N := upd N (6 + c) (N (6 + o))) (i := 6 + o) (j := 42 + o) (by omega), upd_n (N := N) (i := 6 + c) (j := 42 + o) (by omega), upd_n (N := upd N (6 + c) (N (6 + o))) (i := 6 + o) (j := 42 + c) (by omega), upd_n (N := N) (i := 6 + c) (j := 42 + c) (by omega)]
  rw [upd_comm (i := 6 + o) (j := 42 + c) (by omega), upd_comm (i := 6 + c) (j := 42 + c) (by omega), upd_comm (i := 6 + o) (j := 42 + o) (by omega), upd_comm (i := 6 + c) (j := 42 + o) (by omega)]
/-- the turns of needles in the first i steps -/
def mtn (N : Nat → Int32) (i : Nat) : Int32 := smI 0 (fun j => nI (cnI (mTP (itN N j)) 36)) i
theorem taN_m {N : Nat → Int32} (h : okN N) : cnI (mTP N) 36 = taN (gN N) 36 := by
  unfold taN
  refine cnI_cong fun k hk => ?_
  unfold mTP
  rw [mTu_g h hk, gN0 hk]
theorem mtn_g {N : Nat → Int32} (h : okN N) (k : Nat) : mtn N k = tgN (gN N) k := by
  unfold mtn tgN
  refine smI_cong fun j _ => ?_
  rw [tg_gN, taN_m (h.it j)]

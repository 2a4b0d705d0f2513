/-! hashes, flat -/
theorem hsI_add {F : Nat → Int32} {h : Int64} {a : Nat} : ∀ b : Nat, hsI F h (a + b) = hsI (fun j => F (a + j)) (hsI F h a) b
  | 0 => rfl
  | b + 1 => by
    show mx (hsI F h (a + b)) (F (a + b)).toInt64 = mx (hsI (fun j => F (a + j)) (hsI F h a) b) (F (a + b)).toInt64
    rw [hsI_add b]
theorem hsI_cong {F G : Nat → Int32} {h : Int64} : ∀ n : Nat, (∀ k, k < n → F k = G k) → hsI F h n = hsI G h n
  | 0, _ => rfl
  | n + 1, e => by
    show mx (hsI F h n) (F n).toInt64 = mx (hsI G h n) (G n).toInt64
    rw [hsI_cong n fun k hk => e k (by omega), e n (by omega)]
def cK (N : Nat → Int32) (k : Nat) : Int32 := cellA N (k / 8) (k % 8)
def bK (N : Nat → Int32) (k : Nat) : Int32 := barA N (nI (k / 3)) (k % 3)
theorem hsC_flat {N : Nat → Int32} {h : Int64} : ∀ n : Nat, hsI (cK N) h (8 * n) = hsC N h n
  | 0 => rfl
  | n + 1 => by
    rw [Nat.mul_add, Nat.mul_one, hsI_add, hsC_flat n]
    show _ = hsI (cellA N n) (hsC N h n) 8
    refine hsI_cong 8 fun j hj => ?_
    unfold cK
    rw [show (8 * n + j) / 8 = n by omega, show (8 * n + j) % 8 = j by omega]
theorem hsB_flat {N : Nat → Int32} {h : Int64} : ∀ n : Nat, hsI (bK N) h (3 * n) = hsB N h n
  | 0 => rfl
  | n + 1 => by
    rw [Nat.mul_add, Nat.mul_one, hsI_add, hsB_flat n]
    show _ = hsI (barA N (nI n)) (hsB N h n) 3
    refine hsI_cong 3 fun j hj => ?_
    unfold bK
    rw [show (3 * n + j) / 3 = n by omega, show (3 * n + j) % 3 = j by omega]
set_option maxRecDepth 100000 in
theorem shr_cmp : ∀ a : Fin 37, ∀ b : Fin 37, b.val = 0 ∨ Op.cmpValue (FP.dcmp (shr a.val b.val) (shr a.val b.val)) .l = 0 := by decide +kernel
theorem one_cmp : Op.cmpValue (FP.dcmp FP.dconst1 FP.dconst1) .l = 0 := by decide +kernel
theorem obV_cmp {N : Nat → Int32} : Op.cmpValue (FP.dcmp (obV N) (obV N)) .l = 0 := by
  unfold obV
  by_cases h0 : aimC N = 0
  · rw [if_pos h0]; exact one_cmp
  · rw [if_neg h0]
    have h1 : aimC N ≤ 36 := cnI_le _ _
    have h2 : obeC N ≤ 36 := cnI_le _ _
    exact (shr_cmp ⟨obeC N, by omega⟩ ⟨aimC N, by omega⟩).resolve_left h0
set_option maxHeartbeats 4000000 in
set_option maxRecDepth 100000 in
theorem j_isNaN (l : Launch) (E : NE) (ad : Nat → Nat) (st : NW) (x : UInt64) (hcm : Op.cmpValue (FP.dcmp x x) .l = 0) : nMi l yJxe99ae_isNaN_b9ae7 wsJxe99ae_isNaN_b9ae7 (nRm 0 0) E ad st [.double x] (fun r s1 => r = 0 ∧ st = s1) := by
  refine nSz (cc := cJxe99ae_isNaN_b9ae7) (maxL := 2) (by decide) rfl (Nat.le_of_ble_eq_true rfl) ?_
  intro pg en s mi ar bw mth cd R Q A ls hx hb hml hown hts hRm hP hK hD hZ hA hl hret
  subst hRm
  have hS : va_S A s.heap s.heap [] := va_S.rf
  have hl : lv_has ls 2 [(0, .double x)] := hl
  refine lv_dload_n hx hb dJxe99ae_isNaN_b9ae7_0 rfl (lv_at hl 0 rfl) ?_
  refine lv_dload_n hx hb dJxe99ae_isNaN_b9ae7_1 rfl (lv_at hl 0 rfl) ?_
  refine lv_dcmp hx hb dJxe99ae_isNaN_b9ae7_2 ?_
  refine lv_if_eq (tgt := 10) hx hb dJxe99ae_isNaN_b9ae7_3 (by decide) (fun c9 => ?_) (fun c9 => absurd hcm c9)
  refine lv_iconst (v := 0) hx hb dJxe99ae_isNaN_b9ae7_10 (by decide) ?_
  exact hret _ _ _ _ _ _ hP hD hS ⟨rfl, rfl⟩ (Or.inl rfl) dJxe99ae_isNaN_b9ae7_11
set_option maxHeartbeats 4000000 in
set_option maxRecDepth 100000 in
theorem j_bits (l : Launch) (E : NE) (ad : Nat → Nat) (st : NW) (x : UInt64) (hcm : Op.cmpValue (FP.dcmp x x) .l = 0) : nMl l yJxe99ae_doubleToLongBits_ccdee wsJxe99ae_doubleToLongBits_ccdee (nRm 3 80) E ad st [.double x] (fun r s1 => r = x.toInt64 ∧ st = s1) := by
  refine nSl (cc := cJxe99ae_doubleToLongBits_ccdee) (maxL := 2) (by decide) rfl (Nat.le_of_ble_eq_true rfl) ?_
  intro pg en s mi ar bw mth cd R Q A ls hx hb hml hown hts hRm hP hK hD hZ hA hl hret
  subst hRm
  have hown : s.vm.findClass RJxe99ae = some mi.cls := hown
  have hS : va_S A s.heap s.heap [] := va_S.rf
  have hl : lv_has ls 2 [(0, .double x)] := hl
  refine lv_dload_n hx hb dJxe99ae_doubleToLongBits_ccdee_0 rfl (lv_at hl 0 rfl) ?_
  refine nS_i (As := [.double x]) (rest := _) hx hb hml hown hts hP hK hD hZ hA hS ⟨Nat.zero_le _, Nat.zero_le _⟩ (j_isNaN l E ad st x hcm) (va_cwS 1 hts gJxe99ae_doubleToLongBits_ccdee_Jxe99ae_isNaN_b9ae7 rfl rfl rfl (by decide +kernel) ⟨Nat.le_of_ble_eq_true rfl, Nat.le_of_ble_eq_true rfl⟩) hl.1 rfl (Nat.le_of_ble_eq_true rfl) dJxe99ae_doubleToLongBits_ccdee_1 (fun r s1 H locs hq hP hD hS => ?_)
  obtain ⟨hr, rfl⟩ := hq
  refine lv_if_ne (tgt := 12) hx hb dJxe99ae_doubleToLongBits_ccdee_4 (by decide) (fun c9 => absurd hr c9) (fun c9 => ?_)
  refine lv_dload_n hx hb dJxe99ae_doubleToLongBits_ccdee_7 rfl (lv_at hl 0 rfl) ?_
  refine vn_d2l hx hb (hml.trans hl.1.symm) hown (hts (.methodLink RJxe99ae 134 ⟨"java/lang/Double", "doubleToRawLongBits", "(D)J"⟩) (by decide +kernel)) (hts (.native ⟨"java/lang/Double", "doubleToRawLongBits", "(D)J"⟩) (by decide +kernel)) (hts (.static ⟨"java/lang/Double", "doubleToRawLongBits", "(D)J"⟩) (by decide +kernel)) (hts (.initialized "java/lang/Double") (by decide +kernel)) (Nat.le_of_ble_eq_true rfl) (Nat.le_of_ble_eq_true rfl) dJxe99ae_doubleToLongBits_ccdee_8 ?_
  exact hret _ _ _ _ _ _ hP hD hS ⟨rfl, rfl⟩ dJxe99ae_doubleToLongBits_ccdee_11

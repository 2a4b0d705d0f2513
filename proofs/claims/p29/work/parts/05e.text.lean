set_option maxHeartbeats 4000000 in
set_option maxRecDepth 100000 in
theorem c_save (l : Launch) (E : NE) (ad : Nat → Nat) (st : NW) (a x : Nat) (ha : a ≤ 6) (hxx : x < 6) (Rg : Nat → Nat → Nat → Int32) (G : Nat → Nat → Int32) (hz : ∀ k, k < 36 → G 2 k = 0 ∨ G 2 k = 1) (hH : isR E ad st 16 sH (hst a x)) (hQr : st 12 = some (nRing E ad)) (hRg : ∀ i, i < 6 → isR E ad st (96 + 16 * i) sG (Rg i)) (hR : isR E ad st 64 sG G) : nMv l yX3_save wsX3_save (nRm 1 22) E ad st [.ref (ad 16), .ref (ad 64)] (fun s1 => isR E ad s1 16 sH (hst (if a < 6 then a + 1 else a) (if x + 1 < 6 then x + 1 else 0)) ∧ (∀ i, i < 6 → isR E ad s1 (96 + 16 * i) sG (if i = x then G else Rg i)) ∧ frH st s1) := by
  refine nSv (cc := cX3_save) (maxL := 3) (by decide) rfl (Nat.le_of_ble_eq_true rfl) ?_
  intro pg en s mi ar bw mth cd R Q A ls hx hb hml hown hts hRm hP hK hD hZ hA hl hret
  subst hRm
  have hown : s.vm.findClass RX3 = some mi.cls := hown
  have hS : va_S A s.heap s.heap [] := va_S.rf
  have hl : lv_has ls 3 [(0, .ref (ad 16)), (1, .ref (ad 64))] := hl
  have hf : frH st st := fun _ _ => rfl
  have hinX2 : ∀ w ∈ wsX20, w ∈ wsX3_save := by decide +kernel
  have hinX3 : ∀ w ∈ wsX30, w ∈ wsX3_save := by decide +kernel
  refine lv_aload_n hx hb dX3_save_0 rfl (lv_at hl 0 rfl) ?_
  refine rg (v := .ref (ad 12)) (T := TX3) (N := 3) (C := RX3) hx hb hts hinX3 hown hK hP hH rfl 0 (by decide) (hts (.fieldLink RX3 11 "NeedleGrid$History" "ring" "[LNeedleGrid$Grid;") (by decide +kernel)) rfl dX3_save_1 ?_
  refine lv_aload_n hx hb dX3_save_4 rfl (lv_at hl 0 rfl) ?_
  refine rg (v := .int (nI x)) (T := TX3) (N := 3) (C := RX3) hx hb hts hinX3 hown hK hP hH rfl 2 (by decide) (hts (.fieldLink RX3 18 "NeedleGrid$History" "next" "I") (by decide +kernel)) rfl dX3_save_5 ?_
  refine raq (j := x) hx hb hK hP hQr (by omega) dX3_save_8 ?_
  refine lv_astore_n (lv' := [(2, .ref (ad (96 + 16 * x))), (0, .ref (ad 16)), (1, .ref (ad 64))]) hx hb dX3_save_9 rfl hl (by decide) rfl (fun ls hl => ?_)
  refine lv_aload_n hx hb dX3_save_10 rfl (lv_at hl 0 rfl) ?_
  refine lv_ifnull hx hb dX3_save_11 ?_
  refine lv_aload_n hx hb dX3_save_14 rfl (lv_at hl 0 rfl) ?_
  refine lv_aload_n hx hb dX3_save_15 rfl (lv_at hl 2 rfl) ?_
  have hQ := hRg x hxx
  refine nVv (As := [.ref (ad 64)]) (rest := _) hx hb hml hown hts hP hK hD hZ hA hS ⟨Nat.zero_le _, Nat.zero_le _⟩ hQ.1 rfl (c_copyFrom l E ad st (96 + 16 * x) 64 (by omega) (Rg x) G hQ hR hz) (cwV 1 hts gX3_save_X2_copyFrom rfl rfl rfl (by decide +kernel) ⟨Nat.le_of_ble_eq_true rfl, Nat.le_of_ble_eq_true rfl⟩) hl.1 rfl (Nat.le_of_ble_eq_true rfl) dX3_save_16 (fun s_2 H locs hq hP hD hS => ?_)
  obtain ⟨hQ, hf_1⟩ := hq
  have hRg : ∀ i, i < 6 → isR E ad s_2 (96 + 16 * i) sG ((fun i => if i = x then G else Rg i) i) := fun i hi => by
    by_cases h9 : i = x
    · subst h9; show isR E ad s_2 (96 + 16 * i) sG (if i = i then G else Rg i); rw [if_pos rfl]; exact hQ
    · show isR E ad s_2 (96 + 16 * i) sG (if i = x then G else Rg i); rw [if_neg h9]; exact (hRg i hi).keep hf_1 (by omega) (by decide)
  have hf : frH st s_2 := fun h h9 => (hf_1 h (by omega)).trans (hf h h9)
  have hH := hH.keep hf_1 (by omega) (by decide)
  have hQr := (hf_1 12 (by omega)).trans hQr
  have hR := hR.keep hf_1 (by omega) (by decide)
  refine lv_aload_n hx hb dX3_save_19 rfl (lv_at hl 1 rfl) ?_
  refine lv_aload_n hx hb dX3_save_20 rfl (lv_at hl 1 rfl) ?_
  refine rg (v := .int (nI x)) (T := TX3) (N := 3) (C := RX3) hx hb hts hinX3 hown hK hP hH rfl 2 (by decide) (hts (.fieldLink RX3 18 "NeedleGrid$History" "next" "I") (by decide +kernel)) rfl dX3_save_21 ?_
  refine lv_iconst (v := 1) hx hb dX3_save_24 (by decide) ?_
  refine lv_iadd hx hb dX3_save_25 ?_
  rw [nI_1]
  refine lv_bipush (v := 6) hx hb dX3_save_26 (by decide) ?_
  refine lv_icmp_ge (tgt := 40) hx hb dX3_save_28 (by decide) (fun c28_2 => ?_) (fun c28_2 => ?_)
  · have q1 : ¬ x + 1 < 6 := by have := (nI_geL (n := 6) (i := x + 1) rfl (by decide) (by omega)).mp c28_2; omega
    refine lv_iconst (v := 0) hx hb dX3_save_40 (by decide) ?_
    refine rp (v := 0) (ty := .int) (T := TX3) (N := 3) (C := RX3) hx hb hts hinX3 tyX3 tyX3_ok nmX3 hown hK hP hD hS hH rfl 2 (by decide) (hts (.fieldLink RX3 18 "NeedleGrid$History" "next" "I") (by decide +kernel)) rfl rfl (by decide +kernel) rfl rfl dX3_save_41 (fun s_4 H locs hH hf_5 hP hD hS => ?_)
    have hR := hR.keep hf_5 (by omega) (by decide)
    have hQr := (hf_5 _ (by omega)).trans hQr
    have hRg : ∀ i, i < 6 → isR E ad s_4 (96 + 16 * i) sG ((fun i => if i = x then G else Rg i) i) := fun i hi => (hRg i hi).keep hf_5 (by omega) (by decide)
    have hf : frH st s_4 := fun h h9 => (hf_5 h (by omega)).trans (hf h h9)
    refine lv_aload_n hx hb dX3_save_44 rfl (lv_at hl 1 rfl) ?_
    refine rg (v := .int (nI a)) (T := TX3) (N := 3) (C := RX3) hx hb hts hinX3 hown hK hP hH rfl 1 (by decide) (hts (.fieldLink RX3 26 "NeedleGrid$History" "amount" "I") (by decide +kernel)) rfl dX3_save_45 ?_
    refine lv_bipush (v := 6) hx hb dX3_save_48 (by decide) ?_
    refine lv_icmp_ge (tgt := 63) hx hb dX3_save_50 (by decide) (fun c50_5 => ?_) (fun c50_5 => ?_)
    · have q2 : ¬ a < 6 := by have := (nI_geL (n := 6) (i := a) rfl (by decide) (by omega)).mp c50_5; omega
      exact hret _ _ _ _ _ hP hD hS (⟨hH.eq (all3 rfl (by first | (rw [if_pos q2]; rfl) | (rw [if_neg q2]; rfl)) (by first | (rw [if_pos q1]; rfl) | (rw [if_neg q1]; rfl))), hRg, hf⟩) dX3_save_63
    · have q2 : a < 6 := by have := mt (nI_geL (n := 6) (i := a) rfl (by decide) (by omega)).mpr c50_5; omega
      refine lv_aload_n hx hb dX3_save_53 rfl (lv_at hl 1 rfl) ?_
      refine lv_dup hx hb dX3_save_54 rfl ?_
      refine rg (v := .int (nI a)) (T := TX3) (N := 3) (C := RX3) hx hb hts hinX3 hown hK hP hH rfl 1 (by decide) (hts (.fieldLink RX3 26 "NeedleGrid$History" "amount" "I") (by decide +kernel)) rfl dX3_save_55 ?_
      refine lv_iconst (v := 1) hx hb dX3_save_58 (by decide) ?_
      refine lv_iadd hx hb dX3_save_59 ?_
      rw [nI_1]
      refine rp (v := nI (a + 1)) (ty := .int) (T := TX3) (N := 3) (C := RX3) hx hb hts hinX3 tyX3 tyX3_ok nmX3 hown hK hP hD hS hH rfl 1 (by decide) (hts (.fieldLink RX3 26 "NeedleGrid$History" "amount" "I") (by decide +kernel)) rfl rfl (by decide +kernel) rfl rfl dX3_save_60 (fun s_7 H locs hH hf_8 hP hD hS => ?_)
      have hR := hR.keep hf_8 (by omega) (by decide)
      have hQr := (hf_8 _ (by omega)).trans hQr
      have hRg : ∀ i, i < 6 → isR E ad s_7 (96 + 16 * i) sG ((fun i => if i = x then G else Rg i) i) := fun i hi => (hRg i hi).keep hf_8 (by omega) (by decide)
      have hf : frH st s_7 := fun h h9 => (hf_8 h (by omega)).trans (hf h h9)
      exact hret _ _ _ _ _ hP hD hS (⟨hH.eq (all3 rfl (by first | (rw [if_pos q2]; rfl) | (rw [if_neg q2]; rfl)) (by first | (rw [if_pos q1]; rfl) | (rw [if_neg q1]; rfl))), hRg, hf⟩) dX3_save_63
  · have q1 : x + 1 < 6 := by have := mt (nI_geL (n := 6) (i := x + 1) rfl (by decide) (by omega)).mpr c28_2; omega
    refine lv_aload_n hx hb dX3_save_31 rfl (lv_at hl 1 rfl) ?_
    refine rg (v := .int (nI x)) (T := TX3) (N := 3) (C := RX3) hx hb hts hinX3 hown hK hP hH rfl 2 (by decide) (hts (.fieldLink RX3 18 "NeedleGrid$History" "next" "I") (by decide +kernel)) rfl dX3_save_32 ?_
    refine lv_iconst (v := 1) hx hb dX3_save_35 (by decide) ?_
    refine lv_iadd hx hb dX3_save_36 ?_
    rw [nI_1]
    refine lv_goto (tgt := 41) hx hb dX3_save_37 (by decide) ?_
    refine rp (v := nI (x + 1)) (ty := .int) (T := TX3) (N := 3) (C := RX3) hx hb hts hinX3 tyX3 tyX3_ok nmX3 hown hK hP hD hS hH rfl 2 (by decide) (hts (.fieldLink RX3 18 "NeedleGrid$History" "next" "I") (by decide +kernel)) rfl rfl (by decide +kernel) rfl rfl dX3_save_41 (fun s_9 H locs hH hf_10 hP hD hS => ?_)
    have hR := hR.keep hf_10 (by omega) (by decide)
    have hQr := (hf_10 _ (by omega)).trans hQr
    have hRg : ∀ i, i < 6 → isR E ad s_9 (96 + 16 * i) sG ((fun i => if i = x then G else Rg i) i) := fun i hi => (hRg i hi).keep hf_10 (by omega) (by decide)
    have hf : frH st s_9 := fun h h9 => (hf_10 h (by omega)).trans (hf h h9)
    refine lv_aload_n hx hb dX3_save_44 rfl (lv_at hl 1 rfl) ?_
    refine rg (v := .int (nI a)) (T := TX3) (N := 3) (C := RX3) hx hb hts hinX3 hown hK hP hH rfl 1 (by decide) (hts (.fieldLink RX3 26 "NeedleGrid$History" "amount" "I") (by decide +kernel)) rfl dX3_save_45 ?_
    refine lv_bipush (v := 6) hx hb dX3_save_48 (by decide) ?_
    refine lv_icmp_ge (tgt := 63) hx hb dX3_save_50 (by decide) (fun c50_10 => ?_) (fun c50_10 => ?_)
    · have q2 : ¬ a < 6 := by have := (nI_geL (n := 6) (i := a) rfl (by decide) (by omega)).mp c50_10; omega
      exact hret _ _ _ _ _ hP hD hS (⟨hH.eq (all3 rfl (by first | (rw [if_pos q2]; rfl) | (rw [if_neg q2]; rfl)) (by first | (rw [if_pos q1]; rfl) | (rw [if_neg q1]; rfl))), hRg, hf⟩) dX3_save_63
    · have q2 : a < 6 := by have := mt (nI_geL (n := 6) (i := a) rfl (by decide) (by omega)).mpr c50_10; omega
      refine lv_aload_n hx hb dX3_save_53 rfl (lv_at hl 1 rfl) ?_
      refine lv_dup hx hb dX3_save_54 rfl ?_
      refine rg (v := .int (nI a)) (T := TX3) (N := 3) (C := RX3) hx hb hts hinX3 hown hK hP hH rfl 1 (by decide) (hts (.fieldLink RX3 26 "NeedleGrid$History" "amount" "I") (by decide +kernel)) rfl dX3_save_55 ?_
      refine lv_iconst (v := 1) hx hb dX3_save_58 (by decide) ?_
      refine lv_iadd hx hb dX3_save_59 ?_
      rw [nI_1]
      refine rp (v := nI (a + 1)) (ty := .int) (T := TX3) (N := 3) (C := RX3) hx hb hts hinX3 tyX3 tyX3_ok nmX3 hown hK hP hD hS hH rfl 1 (by decide) (hts (.fieldLink RX3 26 "NeedleGrid$History" "amount" "I") (by decide +kernel)) rfl rfl (by decide +kernel) rfl rfl dX3_save_60 (fun s_12 H locs hH hf_13 hP hD hS => ?_)
      have hR := hR.keep hf_13 (by omega) (by decide)
      have hQr := (hf_13 _ (by omega)).trans hQr
      have hRg : ∀ i, i < 6 → isR E ad s_12 (96 + 16 * i) sG ((fun i => if i = x then G else Rg i) i) := fun i hi => (hRg i hi).keep hf_13 (by omega) (by decide)
      have hf : frH st s_12 := fun h h9 => (hf_13 h (by omega)).trans (hf h h9)
      exact hret _ _ _ _ _ hP hD hS (⟨hH.eq (all3 rfl (by first | (rw [if_pos q2]; rfl) | (rw [if_neg q2]; rfl)) (by first | (rw [if_pos q1]; rfl) | (rw [if_neg q1]; rfl))), hRg, hf⟩) dX3_save_63

/-- outside the history and the grid that is now -/
def frU (st st1 : NW) : Prop := ∀ h : Nat, (h < 16 ∨ (32 ≤ h ∧ h < 64) ∨ 80 ≤ h) → st1 h = st h

set_option maxHeartbeats 4000000 in
set_option maxRecDepth 100000 in
theorem c_restoreInto (l : Launch) (E : NE) (ad : Nat → Nat) (st : NW) (a x : Nat) (ha : a ≤ 6) (ha0 : 0 < a) (hxx : x < 6) (Rg : Nat → Nat → Nat → Int32) (G : Nat → Nat → Int32) (hz : ∀ i, i < 6 → ∀ k, k < 36 → Rg i 2 k = 0 ∨ Rg i 2 k = 1) (hH : isR E ad st 16 sH (hst a x)) (hQr : st 12 = some (nRing E ad)) (hRg : ∀ i, i < 6 → isR E ad st (96 + 16 * i) sG (Rg i)) (hR : isR E ad st 64 sG G) : nMv l yX3_restoreInto wsX3_restoreInto (nRm 1 22) E ad st [.ref (ad 16), .ref (ad 64)] (fun s1 => isR E ad s1 16 sH (hst (a - 1) (if 0 < x then x - 1 else 5)) ∧ isR E ad s1 64 sG (Rg (if 0 < x then x - 1 else 5)) ∧ (∀ i, i < 6 → isR E ad s1 (96 + 16 * i) sG (Rg i)) ∧ frU st s1) := by
  refine nSv (cc := cX3_restoreInto) (maxL := 3) (by decide) rfl (Nat.le_of_ble_eq_true rfl) ?_
  intro pg en s mi ar bw mth cd R Q A ls hx hb hml hown hts hRm hP hK hD hZ hA hl hret
  subst hRm
  have hown : s.vm.findClass RX3 = some mi.cls := hown
  have hS : va_S A s.heap s.heap [] := va_S.rf
  have hl : lv_has ls 3 [(0, .ref (ad 16)), (1, .ref (ad 64))] := hl
  have hf : frU st st := fun _ _ => rfl
  have hinX2 : ∀ w ∈ wsX20, w ∈ wsX3_restoreInto := by decide +kernel
  have hinX3 : ∀ w ∈ wsX30, w ∈ wsX3_restoreInto := by decide +kernel
  refine lv_aload_n hx hb dX3_restoreInto_0 rfl (lv_at hl 0 rfl) ?_
  refine lv_aload_n hx hb dX3_restoreInto_1 rfl (lv_at hl 0 rfl) ?_
  refine rg (v := .int (nI x)) (T := TX3) (N := 3) (C := RX3) hx hb hts hinX3 hown hK hP hH rfl 2 (by decide) (hts (.fieldLink RX3 18 "NeedleGrid$History" "next" "I") (by decide +kernel)) rfl dX3_restoreInto_2 ?_
  refine lv_if_le (tgt := 17) hx hb dX3_restoreInto_5 (by decide) (fun c5_0 => ?_) (fun c5_0 => ?_)
  · have q1 : ¬ 0 < x := by have := (nI_leL (n := 0) (i := x) rfl (by decide) (by omega)).mp c5_0; omega
    refine lv_iconst (v := 5) hx hb dX3_restoreInto_17 (by decide) ?_
    refine rp (v := 5) (ty := .int) (T := TX3) (N := 3) (C := RX3) hx hb hts hinX3 tyX3 tyX3_ok nmX3 hown hK hP hD hS hH rfl 2 (by decide) (hts (.fieldLink RX3 18 "NeedleGrid$History" "next" "I") (by decide +kernel)) rfl rfl (by decide +kernel) rfl rfl dX3_restoreInto_18 (fun s_2 H locs hH hf_3 hP hD hS => ?_)
    have hR := hR.keep hf_3 (by omega) (by decide)
    have hQr := (hf_3 _ (by omega)).trans hQr
    have hRg : ∀ i, i < 6 → isR E ad s_2 (96 + 16 * i) sG (Rg i) := fun i hi => (hRg i hi).keep hf_3 (by omega) (by decide)
    have hf : frU st s_2 := fun h h9 => (hf_3 h (by omega)).trans (hf h h9)
    refine lv_aload_n hx hb dX3_restoreInto_21 rfl (lv_at hl 0 rfl) ?_
    refine lv_dup hx hb dX3_restoreInto_22 rfl ?_
    refine rg (v := .int (nI a)) (T := TX3) (N := 3) (C := RX3) hx hb hts hinX3 hown hK hP hH rfl 1 (by decide) (hts (.fieldLink RX3 26 "NeedleGrid$History" "amount" "I") (by decide +kernel)) rfl dX3_restoreInto_23 ?_
    refine lv_iconst (v := 1) hx hb dX3_restoreInto_26 (by decide) ?_
    refine lv_isub hx hb dX3_restoreInto_27 ?_
    rw [nI_subL (c := a) (N := 1) (n := 1) rfl (by omega)]
    refine rp (v := nI (a - 1)) (ty := .int) (T := TX3) (N := 3) (C := RX3) hx hb hts hinX3 tyX3 tyX3_ok nmX3 hown hK hP hD hS hH rfl 1 (by decide) (hts (.fieldLink RX3 26 "NeedleGrid$History" "amount" "I") (by decide +kernel)) rfl rfl (by decide +kernel) rfl rfl dX3_restoreInto_28 (fun s_4 H locs hH hf_5 hP hD hS => ?_)
    have hR := hR.keep hf_5 (by omega) (by decide)
    have hQr := (hf_5 _ (by omega)).trans hQr
    have hRg : ∀ i, i < 6 → isR E ad s_4 (96 + 16 * i) sG (Rg i) := fun i hi => (hRg i hi).keep hf_5 (by omega) (by decide)
    have hf : frU st s_4 := fun h h9 => (hf_5 h (by omega)).trans (hf h h9)
    refine lv_aload_n hx hb dX3_restoreInto_31 rfl (lv_at hl 0 rfl) ?_
    refine rg (v := .ref (ad 12)) (T := TX3) (N := 3) (C := RX3) hx hb hts hinX3 hown hK hP hH rfl 0 (by decide) (hts (.fieldLink RX3 11 "NeedleGrid$History" "ring" "[LNeedleGrid$Grid;") (by decide +kernel)) rfl dX3_restoreInto_32 ?_
    refine lv_aload_n hx hb dX3_restoreInto_35 rfl (lv_at hl 0 rfl) ?_
    refine rg (v := .int 5) (T := TX3) (N := 3) (C := RX3) hx hb hts hinX3 hown hK hP hH rfl 2 (by decide) (hts (.fieldLink RX3 18 "NeedleGrid$History" "next" "I") (by decide +kernel)) rfl dX3_restoreInto_36 ?_
    refine raq (j := 5) hx hb hK hP hQr (by omega) dX3_restoreInto_39 ?_
    refine lv_astore_n (lv' := [(2, .ref (ad (96 + 16 * 5))), (0, .ref (ad 16)), (1, .ref (ad 64))]) hx hb dX3_restoreInto_40 rfl hl (by decide) rfl (fun ls hl => ?_)
    refine lv_aload_n hx hb dX3_restoreInto_41 rfl (lv_at hl 0 rfl) ?_
    refine lv_ifnull hx hb dX3_restoreInto_42 ?_
    refine lv_aload_n hx hb dX3_restoreInto_45 rfl (lv_at hl 2 rfl) ?_
    refine lv_aload_n hx hb dX3_restoreInto_46 rfl (lv_at hl 0 rfl) ?_
    have hQ := hRg 5 (by omega)
    refine nVv (As := [.ref (ad (96 + 16 * 5))]) (rest := _) hx hb hml hown hts hP hK hD hZ hA hS ⟨Nat.zero_le _, Nat.zero_le _⟩ hR.1 rfl (c_copyFrom l E ad s_4 64 (96 + 16 * 5) (by omega) G (Rg 5) hR hQ (hz 5 (by omega))) (cwV 1 hts gX3_restoreInto_X2_copyFrom rfl rfl rfl (by decide +kernel) ⟨Nat.le_of_ble_eq_true rfl, Nat.le_of_ble_eq_true rfl⟩) hl.1 rfl (Nat.le_of_ble_eq_true rfl) dX3_restoreInto_47 (fun s_7 H locs hq hP hD hS => ?_)
    obtain ⟨hR, hf_6⟩ := hq
    have hRg : ∀ i, i < 6 → isR E ad s_7 (96 + 16 * i) sG (Rg i) := fun i hi => (hRg i hi).keep hf_6 (by omega) (by decide)
    have hf : frU st s_7 := fun h h9 => (hf_6 h (by omega)).trans (hf h h9)
    have hH := hH.keep hf_6 (by omega) (by decide)
    have hQr := (hf_6 12 (by omega)).trans hQr
    exact hret _ _ _ _ _ hP hD hS (⟨hH.eq (all3 rfl rfl (by first | (rw [if_pos q1]; rfl) | (rw [if_neg q1]; rfl))), (by first | (rw [if_pos q1]; exact hR) | (rw [if_neg q1]; exact hR)), hRg, hf⟩) dX3_restoreInto_50
  · have q1 : 0 < x := by have := mt (nI_leL (n := 0) (i := x) rfl (by decide) (by omega)).mpr c5_0; omega
    refine lv_aload_n hx hb dX3_restoreInto_8 rfl (lv_at hl 0 rfl) ?_
    refine rg (v := .int (nI x)) (T := TX3) (N := 3) (C := RX3) hx hb hts hinX3 hown hK hP hH rfl 2 (by decide) (hts (.fieldLink RX3 18 "NeedleGrid$History" "next" "I") (by decide +kernel)) rfl dX3_restoreInto_9 ?_
    refine lv_iconst (v := 1) hx hb dX3_restoreInto_12 (by decide) ?_
    refine lv_isub hx hb dX3_restoreInto_13 ?_
    rw [nI_subL (c := x) (N := 1) (n := 1) rfl (by omega)]
    refine lv_goto (tgt := 18) hx hb dX3_restoreInto_14 (by decide) ?_
    refine rp (v := nI (x - 1)) (ty := .int) (T := TX3) (N := 3) (C := RX3) hx hb hts hinX3 tyX3 tyX3_ok nmX3 hown hK hP hD hS hH rfl 2 (by decide) (hts (.fieldLink RX3 18 "NeedleGrid$History" "next" "I") (by decide +kernel)) rfl rfl (by decide +kernel) rfl rfl dX3_restoreInto_18 (fun s_8 H locs hH hf_9 hP hD hS => ?_)
    have hR := hR.keep hf_9 (by omega) (by decide)
    have hQr := (hf_9 _ (by omega)).trans hQr
    have hRg : ∀ i, i < 6 → isR E ad s_8 (96 + 16 * i) sG (Rg i) := fun i hi => (hRg i hi).keep hf_9 (by omega) (by decide)
    have hf : frU st s_8 := fun h h9 => (hf_9 h (by omega)).trans (hf h h9)
    refine lv_aload_n hx hb dX3_restoreInto_21 rfl (lv_at hl 0 rfl) ?_
    refine lv_dup hx hb dX3_restoreInto_22 rfl ?_
    refine rg (v := .int (nI a)) (T := TX3) (N := 3) (C := RX3) hx hb hts hinX3 hown hK hP hH rfl 1 (by decide) (hts (.fieldLink RX3 26 "NeedleGrid$History" "amount" "I") (by decide +kernel)) rfl dX3_restoreInto_23 ?_
    refine lv_iconst (v := 1) hx hb dX3_restoreInto_26 (by decide) ?_
    refine lv_isub hx hb dX3_restoreInto_27 ?_
    rw [nI_subL (c := a) (N := 1) (n := 1) rfl (by omega)]
    refine rp (v := nI (a - 1)) (ty := .int) (T := TX3) (N := 3) (C := RX3) hx hb hts hinX3 tyX3 tyX3_ok nmX3 hown hK hP hD hS hH rfl 1 (by decide) (hts (.fieldLink RX3 26 "NeedleGrid$History" "amount" "I") (by decide +kernel)) rfl rfl (by decide +kernel) rfl rfl dX3_restoreInto_28 (fun s_10 H locs hH hf_11 hP hD hS => ?_)
    have hR := hR.keep hf_11 (by omega) (by decide)
    have hQr := (hf_11 _ (by omega)).trans hQr
    have hRg : ∀ i, i < 6 → isR E ad s_10 (96 + 16 * i) sG (Rg i) := fun i hi => (hRg i hi).keep hf_11 (by omega) (by decide)
    have hf : frU st s_10 := fun h h9 => (hf_11 h (by omega)).trans (hf h h9)
    refine lv_aload_n hx hb dX3_restoreInto_31 rfl (lv_at hl 0 rfl) ?_
    refine rg (v := .ref (ad 12)) (T := TX3) (N := 3) (C := RX3) hx hb hts hinX3 hown hK hP hH rfl 0 (by decide) (hts (.fieldLink RX3 11 "NeedleGrid$History" "ring" "[LNeedleGrid$Grid;") (by decide +kernel)) rfl dX3_restoreInto_32 ?_
    refine lv_aload_n hx hb dX3_restoreInto_35 rfl (lv_at hl 0 rfl) ?_
    refine rg (v := .int (nI (x - 1))) (T := TX3) (N := 3) (C := RX3) hx hb hts hinX3 hown hK hP hH rfl 2 (by decide) (hts (.fieldLink RX3 18 "NeedleGrid$History" "next" "I") (by decide +kernel)) rfl dX3_restoreInto_36 ?_
    refine raq (j := (x - 1)) hx hb hK hP hQr (by omega) dX3_restoreInto_39 ?_
    refine lv_astore_n (lv' := [(2, .ref (ad (96 + 16 * (x - 1)))), (0, .ref (ad 16)), (1, .ref (ad 64))]) hx hb dX3_restoreInto_40 rfl hl (by decide) rfl (fun ls hl => ?_)
    refine lv_aload_n hx hb dX3_restoreInto_41 rfl (lv_at hl 0 rfl) ?_
    refine lv_ifnull hx hb dX3_restoreInto_42 ?_
    refine lv_aload_n hx hb dX3_restoreInto_45 rfl (lv_at hl 2 rfl) ?_
    refine lv_aload_n hx hb dX3_restoreInto_46 rfl (lv_at hl 0 rfl) ?_
    have hQ := hRg (x - 1) (by omega)
    refine nVv (As := [.ref (ad (96 + 16 * (x - 1)))]) (rest := _) hx hb hml hown hts hP hK hD hZ hA hS ⟨Nat.zero_le _, Nat.zero_le _⟩ hR.1 rfl (c_copyFrom l E ad s_10 64 (96 + 16 * (x - 1)) (by omega) G (Rg (x - 1)) hR hQ (hz (x - 1) (by omega))) (cwV 1 hts gX3_restoreInto_X2_copyFrom rfl rfl rfl (by decide +kernel) ⟨Nat.le_of_ble_eq_true rfl, Nat.le_of_ble_eq_true rfl⟩) hl.1 rfl (Nat.le_of_ble_eq_true rfl) dX3_restoreInto_47 (fun s_13 H locs hq hP hD hS => ?_)
    obtain ⟨hR, hf_12⟩ := hq
    have hRg : ∀ i, i < 6 → isR E ad s_13 (96 + 16 * i) sG (Rg i) := fun i hi => (hRg i hi).keep hf_12 (by omega) (by decide)
    have hf : frU st s_13 := fun h h9 => (hf_12 h (by omega)).trans (hf h h9)
    have hH := hH.keep hf_12 (by omega) (by decide)
    have hQr := (hf_12 12 (by omega)).trans hQr
    exact hret _ _ _ _ _ hP hD hS (⟨hH.eq (all3 rfl rfl (by first | (rw [if_pos q1]; rfl) | (rw [if_neg q1]; rfl))), (by first | (rw [if_pos q1]; exact hR) | (rw [if_neg q1]; exact hR)), hRg, hf⟩) dX3_restoreInto_50


theorem le_nlt {a b : Int32} (h : a ≤ b) : ¬ b < a := by
  rw [Int32.le_iff_toInt_le] at h
  rw [Int32.lt_iff_toInt_lt]
  omega
theorem nle_lt {a b : Int32} (h : ¬ a ≤ b) : b < a := by
  rw [Int32.le_iff_toInt_le] at h
  rw [Int32.lt_iff_toInt_lt]
  omega

set_option maxHeartbeats 4000000 in
set_option maxRecDepth 100000 in
theorem m_aim0 (l : Launch) (E : NE) (ad : Nat → Nat) (st : NW) (b : Nat) (G : Nat → Nat → Int32) (hM : isR E ad st b sM G) (c : Nat) (hc : c < 36) (hdB : okB (G 0)) : nMi l yX5_aim wsX5_aim (nRm 5 118) E ad st [.ref (ad b), .ref (ad (b + 1 + 0)), .int (nI c)] (fun r s1 => r = mAim (G 0) c ∧ isR E ad s1 b sM (gu (gu G 12 (fun _ => LX (G 0) c)) 13 (fun _ => LY (G 0) c)) ∧ fr b st s1) := by
  refine nSi (cc := cX5_aim) (maxL := 5) (by decide) rfl (Nat.le_of_ble_eq_true rfl) ?_
  intro pg en s mi ar bw mth cd R Q A ls hx hb hml hown hts hRm hP hK hD hZ hA hl hret
  subst hRm
  have hown : s.vm.findClass RX5 = some mi.cls := hown
  have hS : va_S A s.heap s.heap [] := va_S.rf
  have hl : lv_has ls 5 [(0, .ref (ad b)), (1, .ref (ad (b + 1 + 0))), (2, .int (nI c))] := hl
  have hf : fr b st st := fr.rf
  have hinX5 : ∀ w ∈ wsX50, w ∈ wsX5_aim := by decide +kernel
  refine lv_aload_n hx hb dX5_aim_0 rfl (lv_at hl 0 rfl) ?_
  refine lv_aload_n hx hb dX5_aim_1 rfl (lv_at hl 1 rfl) ?_
  refine lv_iload_n hx hb dX5_aim_2 rfl (lv_at hl 2 rfl) ?_
  refine nVv (As := [.ref (ad (b + 1 + 0)), .int (nI c)]) (rest := _) hx hb hml hown hts hP hK hD hZ hA hS ⟨Nat.zero_le _, Nat.zero_le _⟩ hM.1 rfl (m_lays0 l E ad st b G hM c (by omega) hdB) (cwV 2 hts gX5_aim_X5_lays rfl rfl rfl (by decide +kernel) ⟨Nat.le_of_ble_eq_true rfl, Nat.le_of_ble_eq_true rfl⟩) hl.1 rfl (Nat.le_of_ble_eq_true rfl) dX5_aim_3 (fun s_3 H locs hq hP hD hS => ?_)
  obtain ⟨hM, hf_2⟩ := hq
  have hf := hf.tr hf_2
  refine lv_aload_n hx hb dX5_aim_6 rfl (lv_at hl 0 rfl) ?_
  refine rg (v := .int (LX (G 0) c)) (T := TX5) (N := 14) (C := RX5) hx hb hts hinX5 hown hK hP hM rfl 12 (by decide) (hts (.fieldLink RX5 47 "NeedleGridModel" "fx" "I") (by decide +kernel)) rfl dX5_aim_7 ?_
  refine nS_i (As := [.int (LX (G 0) c)]) (rest := _) hx hb hml hown hts hP hK hD hZ hA hS ⟨Nat.zero_le _, Nat.zero_le _⟩ (m_size l E ad s_3 (LX (G 0) c)) (va_cwS 1 hts gX5_aim_X5_size rfl rfl rfl (by decide +kernel) ⟨Nat.le_of_ble_eq_true rfl, Nat.le_of_ble_eq_true rfl⟩) hl.1 rfl (Nat.le_of_ble_eq_true rfl) dX5_aim_10 (fun r_4 s_5 H locs hq hP hD hS => ?_)
  obtain ⟨rfl, rfl⟩ := hq
  refine lv_topi (fun x3_13 ex3_13 => ?_)
  have ex3_13 : x3_13 = ab (LX (G 0) c) := ex3_13
  refine lv_istore_n (lv' := [(3, .int x3_13), (0, .ref (ad b)), (1, .ref (ad (b + 1 + 0))), (2, .int (nI c))]) hx hb dX5_aim_13 rfl hl (by decide) rfl (fun ls hl => ?_)
  refine lv_aload_n hx hb dX5_aim_14 rfl (lv_at hl 1 rfl) ?_
  refine rg (v := .int (LY (G 0) c)) (T := TX5) (N := 14) (C := RX5) hx hb hts hinX5 hown hK hP hM rfl 13 (by decide) (hts (.fieldLink RX5 53 "NeedleGridModel" "fy" "I") (by decide +kernel)) rfl dX5_aim_15 ?_
  refine nS_i (As := [.int (LY (G 0) c)]) (rest := _) hx hb hml hown hts hP hK hD hZ hA hS ⟨Nat.zero_le _, Nat.zero_le _⟩ (m_size l E ad s_3 (LY (G 0) c)) (va_cwS 1 hts gX5_aim_X5_size rfl rfl rfl (by decide +kernel) ⟨Nat.le_of_ble_eq_true rfl, Nat.le_of_ble_eq_true rfl⟩) hl.1 rfl (Nat.le_of_ble_eq_true rfl) dX5_aim_18 (fun r_6 s_7 H locs hq hP hD hS => ?_)
  obtain ⟨rfl, rfl⟩ := hq
  refine lv_topi (fun x4_21 ex4_21 => ?_)
  have ex4_21 : x4_21 = ab (LY (G 0) c) := ex4_21
  refine lv_istore (lv' := [(4, .int x4_21), (3, .int x3_13), (0, .ref (ad b)), (1, .ref (ad (b + 1 + 0))), (2, .int (nI c))]) hx hb dX5_aim_21 hl (by decide) rfl (fun ls hl => ?_)
  refine lv_iload_n hx hb dX5_aim_23 rfl (lv_at hl 1 rfl) ?_
  refine lv_if_ne (tgt := 34) hx hb dX5_aim_24 (by decide) (fun c24_7 => ?_) (fun c24_7 => ?_)
  · refine lv_bipush (v := 12) hx hb dX5_aim_34 (by decide) ?_
    refine lv_iload hx hb dX5_aim_36 (lv_at hl 0 rfl) ?_
    refine lv_imul hx hb dX5_aim_38 ?_
    refine lv_iconst (v := 5) hx hb dX5_aim_39 (by decide) ?_
    refine lv_iload_n hx hb dX5_aim_40 rfl (lv_at hl 1 rfl) ?_
    refine lv_imul hx hb dX5_aim_41 ?_
    refine lv_icmp_gt (tgt := 58) hx hb dX5_aim_42 (by decide) (fun c42_8 => ?_) (fun c42_8 => ?_)
    · have c42_8 : (5 * x3_13) < (12 * x4_21) := c42_8
      refine lv_bipush (v := 12) hx hb dX5_aim_58 (by decide) ?_
      refine lv_iload_n hx hb dX5_aim_60 rfl (lv_at hl 1 rfl) ?_
      refine lv_imul hx hb dX5_aim_61 ?_
      refine lv_iconst (v := 5) hx hb dX5_aim_62 (by decide) ?_
      refine lv_iload hx hb dX5_aim_63 (lv_at hl 0 rfl) ?_
      refine lv_imul hx hb dX5_aim_65 ?_
      refine lv_icmp_gt (tgt := 83) hx hb dX5_aim_66 (by decide) (fun c66_9 => ?_) (fun c66_9 => ?_)
      · have c66_9 : (5 * x4_21) < (12 * x3_13) := c66_9
        refine lv_aload_n hx hb dX5_aim_83 rfl (lv_at hl 2 rfl) ?_
        refine rg (v := .int (LX (G 0) c)) (T := TX5) (N := 14) (C := RX5) hx hb hts hinX5 hown hK hP hM rfl 12 (by decide) (hts (.fieldLink RX5 47 "NeedleGridModel" "fx" "I") (by decide +kernel)) rfl dX5_aim_84 ?_
        refine lv_if_le (tgt := 106) hx hb dX5_aim_87 (by decide) (fun c87_10 => ?_) (fun c87_10 => ?_)
        · have c87_10 : (LX (G 0) c) ≤ 0 := c87_10
          refine lv_aload_n hx hb dX5_aim_106 rfl (lv_at hl 2 rfl) ?_
          refine rg (v := .int (LY (G 0) c)) (T := TX5) (N := 14) (C := RX5) hx hb hts hinX5 hown hK hP hM rfl 13 (by decide) (hts (.fieldLink RX5 53 "NeedleGridModel" "fy" "I") (by decide +kernel)) rfl dX5_aim_107 ?_
          refine lv_if_le (tgt := 117) hx hb dX5_aim_110 (by decide) (fun c110_11 => ?_) (fun c110_11 => ?_)
          · have c110_11 : (LY (G 0) c) ≤ 0 := c110_11
            refine lv_iconst (v := 5) hx hb dX5_aim_117 (by decide) ?_
            exact hret _ _ _ _ _ _ hP hD hS (⟨by subst ex3_13 ex4_21; delta mAim aimOf aimO; simp only [if_neg c24_7, if_pos c42_8, if_pos c66_9, if_pos c87_10, if_pos c110_11], hM, hf⟩) dX5_aim_118
          · have c110_11 : ¬ (LY (G 0) c) ≤ 0 := c110_11
            refine lv_iconst (v := 3) hx hb dX5_aim_113 (by decide) ?_
            refine lv_goto (tgt := 118) hx hb dX5_aim_114 (by decide) ?_
            exact hret _ _ _ _ _ _ hP hD hS (⟨by subst ex3_13 ex4_21; delta mAim aimOf aimO; simp only [if_neg c24_7, if_pos c42_8, if_pos c66_9, if_pos c87_10, if_neg c110_11], hM, hf⟩) dX5_aim_118
        · have c87_10 : ¬ (LX (G 0) c) ≤ 0 := c87_10
          refine lv_aload_n hx hb dX5_aim_90 rfl (lv_at hl 2 rfl) ?_
          refine rg (v := .int (LY (G 0) c)) (T := TX5) (N := 14) (C := RX5) hx hb hts hinX5 hown hK hP hM rfl 13 (by decide) (hts (.fieldLink RX5 53 "NeedleGridModel" "fy" "I") (by decide +kernel)) rfl dX5_aim_91 ?_
          refine lv_if_le (tgt := 101) hx hb dX5_aim_94 (by decide) (fun c94_12 => ?_) (fun c94_12 => ?_)
          · have c94_12 : (LY (G 0) c) ≤ 0 := c94_12
            refine lv_bipush (v := 7) hx hb dX5_aim_101 (by decide) ?_
            refine lv_goto (tgt := 118) hx hb dX5_aim_103 (by decide) ?_
            exact hret _ _ _ _ _ _ hP hD hS (⟨by subst ex3_13 ex4_21; delta mAim aimOf aimO; simp only [if_neg c24_7, if_pos c42_8, if_pos c66_9, if_neg c87_10, if_pos c94_12], hM, hf⟩) dX5_aim_118
          · have c94_12 : ¬ (LY (G 0) c) ≤ 0 := c94_12
            refine lv_iconst (v := 1) hx hb dX5_aim_97 (by decide) ?_
            refine lv_goto (tgt := 118) hx hb dX5_aim_98 (by decide) ?_
            exact hret _ _ _ _ _ _ hP hD hS (⟨by subst ex3_13 ex4_21; delta mAim aimOf aimO; simp only [if_neg c24_7, if_pos c42_8, if_pos c66_9, if_neg c87_10, if_neg c94_12], hM, hf⟩) dX5_aim_118
      · have c66_9 : ¬ (5 * x4_21) < (12 * x3_13) := c66_9
        refine lv_aload_n hx hb dX5_aim_69 rfl (lv_at hl 2 rfl) ?_
        refine rg (v := .int (LY (G 0) c)) (T := TX5) (N := 14) (C := RX5) hx hb hts hinX5 hown hK hP hM rfl 13 (by decide) (hts (.fieldLink RX5 53 "NeedleGridModel" "fy" "I") (by decide +kernel)) rfl dX5_aim_70 ?_
        refine lv_if_le (tgt := 80) hx hb dX5_aim_73 (by decide) (fun c73_13 => ?_) (fun c73_13 => ?_)
        · have c73_13 : (LY (G 0) c) ≤ 0 := c73_13
          refine lv_bipush (v := 6) hx hb dX5_aim_80 (by decide) ?_
          exact hret _ _ _ _ _ _ hP hD hS (⟨by subst ex3_13 ex4_21; delta mAim aimOf aimO; simp only [if_neg c24_7, if_pos c42_8, if_neg c66_9, if_pos c73_13], hM, hf⟩) dX5_aim_82
        · have c73_13 : ¬ (LY (G 0) c) ≤ 0 := c73_13
          refine lv_iconst (v := 2) hx hb dX5_aim_76 (by decide) ?_
          refine lv_goto (tgt := 82) hx hb dX5_aim_77 (by decide) ?_
          exact hret _ _ _ _ _ _ hP hD hS (⟨by subst ex3_13 ex4_21; delta mAim aimOf aimO; simp only [if_neg c24_7, if_pos c42_8, if_neg c66_9, if_neg c73_13], hM, hf⟩) dX5_aim_82
    · have c42_8 : ¬ (5 * x3_13) < (12 * x4_21) := c42_8
      refine lv_aload_n hx hb dX5_aim_45 rfl (lv_at hl 2 rfl) ?_
      refine rg (v := .int (LX (G 0) c)) (T := TX5) (N := 14) (C := RX5) hx hb hts hinX5 hown hK hP hM rfl 12 (by decide) (hts (.fieldLink RX5 47 "NeedleGridModel" "fx" "I") (by decide +kernel)) rfl dX5_aim_46 ?_
      refine lv_if_le (tgt := 56) hx hb dX5_aim_49 (by decide) (fun c49_14 => ?_) (fun c49_14 => ?_)
      · have c49_14 : (LX (G 0) c) ≤ 0 := c49_14
        refine lv_iconst (v := 4) hx hb dX5_aim_56 (by decide) ?_
        exact hret _ _ _ _ _ _ hP hD hS (⟨by subst ex3_13 ex4_21; delta mAim aimOf aimO; simp only [if_neg c24_7, if_neg c42_8, if_pos c49_14], hM, hf⟩) dX5_aim_57
      · have c49_14 : ¬ (LX (G 0) c) ≤ 0 := c49_14
        refine lv_iconst (v := 0) hx hb dX5_aim_52 (by decide) ?_
        refine lv_goto (tgt := 57) hx hb dX5_aim_53 (by decide) ?_
        exact hret _ _ _ _ _ _ hP hD hS (⟨by subst ex3_13 ex4_21; delta mAim aimOf aimO; simp only [if_neg c24_7, if_neg c42_8, if_neg c49_14], hM, hf⟩) dX5_aim_57
  · refine lv_iload hx hb dX5_aim_27 (lv_at hl 0 rfl) ?_
    refine lv_if_ne (tgt := 34) hx hb dX5_aim_29 (by decide) (fun c29_15 => ?_) (fun c29_15 => ?_)
    · refine lv_bipush (v := 12) hx hb dX5_aim_34 (by decide) ?_
      refine lv_iload hx hb dX5_aim_36 (lv_at hl 0 rfl) ?_
      refine lv_imul hx hb dX5_aim_38 ?_
      refine lv_iconst (v := 5) hx hb dX5_aim_39 (by decide) ?_
      refine lv_iload_n hx hb dX5_aim_40 rfl (lv_at hl 1 rfl) ?_
      refine lv_imul hx hb dX5_aim_41 ?_
      refine lv_icmp_gt (tgt := 58) hx hb dX5_aim_42 (by decide) (fun c42_16 => ?_) (fun c42_16 => ?_)
      · have c42_16 : (5 * x3_13) < (12 * x4_21) := c42_16
        refine lv_bipush (v := 12) hx hb dX5_aim_58 (by decide) ?_
        refine lv_iload_n hx hb dX5_aim_60 rfl (lv_at hl 1 rfl) ?_
        refine lv_imul hx hb dX5_aim_61 ?_
        refine lv_iconst (v := 5) hx hb dX5_aim_62 (by decide) ?_
        refine lv_iload hx hb dX5_aim_63 (lv_at hl 0 rfl) ?_
        refine lv_imul hx hb dX5_aim_65 ?_
        refine lv_icmp_gt (tgt := 83) hx hb dX5_aim_66 (by decide) (fun c66_17 => ?_) (fun c66_17 => ?_)
        · have c66_17 : (5 * x4_21) < (12 * x3_13) := c66_17
          refine lv_aload_n hx hb dX5_aim_83 rfl (lv_at hl 2 rfl) ?_
          refine rg (v := .int (LX (G 0) c)) (T := TX5) (N := 14) (C := RX5) hx hb hts hinX5 hown hK hP hM rfl 12 (by decide) (hts (.fieldLink RX5 47 "NeedleGridModel" "fx" "I") (by decide +kernel)) rfl dX5_aim_84 ?_
          refine lv_if_le (tgt := 106) hx hb dX5_aim_87 (by decide) (fun c87_18 => ?_) (fun c87_18 => ?_)
          · have c87_18 : (LX (G 0) c) ≤ 0 := c87_18
            refine lv_aload_n hx hb dX5_aim_106 rfl (lv_at hl 2 rfl) ?_
            refine rg (v := .int (LY (G 0) c)) (T := TX5) (N := 14) (C := RX5) hx hb hts hinX5 hown hK hP hM rfl 13 (by decide) (hts (.fieldLink RX5 53 "NeedleGridModel" "fy" "I") (by decide +kernel)) rfl dX5_aim_107 ?_
            refine lv_if_le (tgt := 117) hx hb dX5_aim_110 (by decide) (fun c110_19 => ?_) (fun c110_19 => ?_)
            · have c110_19 : (LY (G 0) c) ≤ 0 := c110_19
              refine lv_iconst (v := 5) hx hb dX5_aim_117 (by decide) ?_
              exact hret _ _ _ _ _ _ hP hD hS (⟨by subst ex3_13 ex4_21; delta mAim aimOf aimO; simp only [if_pos c24_7, if_neg c29_15, if_pos c42_16, if_pos c66_17, if_pos c87_18, if_pos c110_19], hM, hf⟩) dX5_aim_118
            · have c110_19 : ¬ (LY (G 0) c) ≤ 0 := c110_19
              refine lv_iconst (v := 3) hx hb dX5_aim_113 (by decide) ?_
              refine lv_goto (tgt := 118) hx hb dX5_aim_114 (by decide) ?_
              exact hret _ _ _ _ _ _ hP hD hS (⟨by subst ex3_13 ex4_21; delta mAim aimOf aimO; simp only [if_pos c24_7, if_neg c29_15, if_pos c42_16, if_pos c66_17, if_pos c87_18, if_neg c110_19], hM, hf⟩) dX5_aim_118
          · have c87_18 : ¬ (LX (G 0) c) ≤ 0 := c87_18
            refine lv_aload_n hx hb dX5_aim_90 rfl (lv_at hl 2 rfl) ?_
            refine rg (v := .int (LY (G 0) c)) (T := TX5) (N := 14) (C := RX5) hx hb hts hinX5 hown hK hP hM rfl 13 (by decide) (hts (.fieldLink RX5 53 "NeedleGridModel" "fy" "I") (by decide +kernel)) rfl dX5_aim_91 ?_
            refine lv_if_le (tgt := 101) hx hb dX5_aim_94 (by decide) (fun c94_20 => ?_) (fun c94_20 => ?_)
            · have c94_20 : (LY (G 0) c) ≤ 0 := c94_20
              refine lv_bipush (v := 7) hx hb dX5_aim_101 (by decide) ?_
              refine lv_goto (tgt := 118) hx hb dX5_aim_103 (by decide) ?_
              exact hret _ _ _ _ _ _ hP hD hS (⟨by subst ex3_13 ex4_21; delta mAim aimOf aimO; simp only [if_pos c24_7, if_neg c29_15, if_pos c42_16, if_pos c66_17, if_neg c87_18, if_pos c94_20], hM, hf⟩) dX5_aim_118
            · have c94_20 : ¬ (LY (G 0) c) ≤ 0 := c94_20
              refine lv_iconst (v := 1) hx hb dX5_aim_97 (by decide) ?_
              refine lv_goto (tgt := 118) hx hb dX5_aim_98 (by decide) ?_
              exact hret _ _ _ _ _ _ hP hD hS (⟨by subst ex3_13 ex4_21; delta mAim aimOf aimO; simp only [if_pos c24_7, if_neg c29_15, if_pos c42_16, if_pos c66_17, if_neg c87_18, if_neg c94_20], hM, hf⟩) dX5_aim_118
        · have c66_17 : ¬ (5 * x4_21) < (12 * x3_13) := c66_17
          refine lv_aload_n hx hb dX5_aim_69 rfl (lv_at hl 2 rfl) ?_
          refine rg (v := .int (LY (G 0) c)) (T := TX5) (N := 14) (C := RX5) hx hb hts hinX5 hown hK hP hM rfl 13 (by decide) (hts (.fieldLink RX5 53 "NeedleGridModel" "fy" "I") (by decide +kernel)) rfl dX5_aim_70 ?_
          refine lv_if_le (tgt := 80) hx hb dX5_aim_73 (by decide) (fun c73_21 => ?_) (fun c73_21 => ?_)
          · have c73_21 : (LY (G 0) c) ≤ 0 := c73_21
            refine lv_bipush (v := 6) hx hb dX5_aim_80 (by decide) ?_
            exact hret _ _ _ _ _ _ hP hD hS (⟨by subst ex3_13 ex4_21; delta mAim aimOf aimO; simp only [if_pos c24_7, if_neg c29_15, if_pos c42_16, if_neg c66_17, if_pos c73_21], hM, hf⟩) dX5_aim_82
          · have c73_21 : ¬ (LY (G 0) c) ≤ 0 := c73_21
            refine lv_iconst (v := 2) hx hb dX5_aim_76 (by decide) ?_
            refine lv_goto (tgt := 82) hx hb dX5_aim_77 (by decide) ?_
            exact hret _ _ _ _ _ _ hP hD hS (⟨by subst ex3_13 ex4_21; delta mAim aimOf aimO; simp only [if_pos c24_7, if_neg c29_15, if_pos c42_16, if_neg c66_17, if_neg c73_21], hM, hf⟩) dX5_aim_82
      · have c42_16 : ¬ (5 * x3_13) < (12 * x4_21) := c42_16
        refine lv_aload_n hx hb dX5_aim_45 rfl (lv_at hl 2 rfl) ?_
        refine rg (v := .int (LX (G 0) c)) (T := TX5) (N := 14) (C := RX5) hx hb hts hinX5 hown hK hP hM rfl 12 (by decide) (hts (.fieldLink RX5 47 "NeedleGridModel" "fx" "I") (by decide +kernel)) rfl dX5_aim_46 ?_
        refine lv_if_le (tgt := 56) hx hb dX5_aim_49 (by decide) (fun c49_22 => ?_) (fun c49_22 => ?_)
        · have c49_22 : (LX (G 0) c) ≤ 0 := c49_22
          refine lv_iconst (v := 4) hx hb dX5_aim_56 (by decide) ?_
          exact hret _ _ _ _ _ _ hP hD hS (⟨by subst ex3_13 ex4_21; delta mAim aimOf aimO; simp only [if_pos c24_7, if_neg c29_15, if_neg c42_16, if_pos c49_22], hM, hf⟩) dX5_aim_57
        · have c49_22 : ¬ (LX (G 0) c) ≤ 0 := c49_22
          refine lv_iconst (v := 0) hx hb dX5_aim_52 (by decide) ?_
          refine lv_goto (tgt := 57) hx hb dX5_aim_53 (by decide) ?_
          exact hret _ _ _ _ _ _ hP hD hS (⟨by subst ex3_13 ex4_21; delta mAim aimOf aimO; simp only [if_pos c24_7, if_neg c29_15, if_neg c42_16, if_neg c49_22], hM, hf⟩) dX5_aim_57
    · refine lv_iconst (v := -1) hx hb dX5_aim_32 (by decide) ?_
      exact hret _ _ _ _ _ _ hP hD hS (⟨by subst ex3_13 ex4_21; delta mAim aimOf aimO; simp only [if_pos c24_7, if_pos c29_15], hM, hf⟩) dX5_aim_33

set_option maxHeartbeats 4000000 in
set_option maxRecDepth 100000 in
theorem m_aim1 (l : Launch) (E : NE) (ad : Nat → Nat) (st : NW) (b : Nat) (G : Nat → Nat → Int32) (hM : isR E ad st b sM G) (c : Nat) (hc : c < 36) (hdB : okB (G 1)) : nMi l yX5_aim wsX5_aim (nRm 5 118) E ad st [.ref (ad b), .ref (ad (b + 1 + 1)), .int (nI c)] (fun r s1 => r = mAim (G 1) c ∧ isR E ad s1 b sM (gu (gu G 12 (fun _ => LX (G 1) c)) 13 (fun _ => LY (G 1) c)) ∧ fr b st s1) := by
  refine nSi (cc := cX5_aim) (maxL := 5) (by decide) rfl (Nat.le_of_ble_eq_true rfl) ?_
  intro pg en s mi ar bw mth cd R Q A ls hx hb hml hown hts hRm hP hK hD hZ hA hl hret
  subst hRm
  have hown : s.vm.findClass RX5 = some mi.cls := hown
  have hS : va_S A s.heap s.heap [] := va_S.rf
  have hl : lv_has ls 5 [(0, .ref (ad b)), (1, .ref (ad (b + 1 + 1))), (2, .int (nI c))] := hl
  have hf : fr b st st := fr.rf
  have hinX5 : ∀ w ∈ wsX50, w ∈ wsX5_aim := by decide +kernel
  refine lv_aload_n hx hb dX5_aim_0 rfl (lv_at hl 0 rfl) ?_
  refine lv_aload_n hx hb dX5_aim_1 rfl (lv_at hl 1 rfl) ?_
  refine lv_iload_n hx hb dX5_aim_2 rfl (lv_at hl 2 rfl) ?_
  refine nVv (As := [.ref (ad (b + 1 + 1)), .int (nI c)]) (rest := _) hx hb hml hown hts hP hK hD hZ hA hS ⟨Nat.zero_le _, Nat.zero_le _⟩ hM.1 rfl (m_lays1 l E ad st b G hM c (by omega) hdB) (cwV 2 hts gX5_aim_X5_lays rfl rfl rfl (by decide +kernel) ⟨Nat.le_of_ble_eq_true rfl, Nat.le_of_ble_eq_true rfl⟩) hl.1 rfl (Nat.le_of_ble_eq_true rfl) dX5_aim_3 (fun s_3 H locs hq hP hD hS => ?_)
  obtain ⟨hM, hf_2⟩ := hq
  have hf := hf.tr hf_2
  refine lv_aload_n hx hb dX5_aim_6 rfl (lv_at hl 0 rfl) ?_
  refine rg (v := .int (LX (G 1) c)) (T := TX5) (N := 14) (C := RX5) hx hb hts hinX5 hown hK hP hM rfl 12 (by decide) (hts (.fieldLink RX5 47 "NeedleGridModel" "fx" "I") (by decide +kernel)) rfl dX5_aim_7 ?_
  refine nS_i (As := [.int (LX (G 1) c)]) (rest := _) hx hb hml hown hts hP hK hD hZ hA hS ⟨Nat.zero_le _, Nat.zero_le _⟩ (m_size l E ad s_3 (LX (G 1) c)) (va_cwS 1 hts gX5_aim_X5_size rfl rfl rfl (by decide +kernel) ⟨Nat.le_of_ble_eq_true rfl, Nat.le_of_ble_eq_true rfl⟩) hl.1 rfl (Nat.le_of_ble_eq_true rfl) dX5_aim_10 (fun r_4 s_5 H locs hq hP hD hS => ?_)
  obtain ⟨rfl, rfl⟩ := hq
  refine lv_topi (fun x3_13 ex3_13 => ?_)
  have ex3_13 : x3_13 = ab (LX (G 1) c) := ex3_13
  refine lv_istore_n (lv' := [(3, .int x3_13), (0, .ref (ad b)), (1, .ref (ad (b + 1 + 1))), (2, .int (nI c))]) hx hb dX5_aim_13 rfl hl (by decide) rfl (fun ls hl => ?_)
  refine lv_aload_n hx hb dX5_aim_14 rfl (lv_at hl 1 rfl) ?_
  refine rg (v := .int (LY (G 1) c)) (T := TX5) (N := 14) (C := RX5) hx hb hts hinX5 hown hK hP hM rfl 13 (by decide) (hts (.fieldLink RX5 53 "NeedleGridModel" "fy" "I") (by decide +kernel)) rfl dX5_aim_15 ?_
  refine nS_i (As := [.int (LY (G 1) c)]) (rest := _) hx hb hml hown hts hP hK hD hZ hA hS ⟨Nat.zero_le _, Nat.zero_le _⟩ (m_size l E ad s_3 (LY (G 1) c)) (va_cwS 1 hts gX5_aim_X5_size rfl rfl rfl (by decide +kernel) ⟨Nat.le_of_ble_eq_true rfl, Nat.le_of_ble_eq_true rfl⟩) hl.1 rfl (Nat.le_of_ble_eq_true rfl) dX5_aim_18 (fun r_6 s_7 H locs hq hP hD hS => ?_)
  obtain ⟨rfl, rfl⟩ := hq
  refine lv_topi (fun x4_21 ex4_21 => ?_)
  have ex4_21 : x4_21 = ab (LY (G 1) c) := ex4_21
  refine lv_istore (lv' := [(4, .int x4_21), (3, .int x3_13), (0, .ref (ad b)), (1, .ref (ad (b + 1 + 1))), (2, .int (nI c))]) hx hb dX5_aim_21 hl (by decide) rfl (fun ls hl => ?_)
  refine lv_iload_n hx hb dX5_aim_23 rfl (lv_at hl 1 rfl) ?_
  refine lv_if_ne (tgt := 34) hx hb dX5_aim_24 (by decide) (fun c24_7 => ?_) (fun c24_7 => ?_)
  · refine lv_bipush (v := 12) hx hb dX5_aim_34 (by decide) ?_
    refine lv_iload hx hb dX5_aim_36 (lv_at hl 0 rfl) ?_
    refine lv_imul hx hb dX5_aim_38 ?_
    refine lv_iconst (v := 5) hx hb dX5_aim_39 (by decide) ?_
    refine lv_iload_n hx hb dX5_aim_40 rfl (lv_at hl 1 rfl) ?_
    refine lv_imul hx hb dX5_aim_41 ?_
    refine lv_icmp_gt (tgt := 58) hx hb dX5_aim_42 (by decide) (fun c42_8 => ?_) (fun c42_8 => ?_)
    · have c42_8 : (5 * x3_13) < (12 * x4_21) := c42_8
      refine lv_bipush (v := 12) hx hb dX5_aim_58 (by decide) ?_
      refine lv_iload_n hx hb dX5_aim_60 rfl (lv_at hl 1 rfl) ?_
      refine lv_imul hx hb dX5_aim_61 ?_
      refine lv_iconst (v := 5) hx hb dX5_aim_62 (by decide) ?_
      refine lv_iload hx hb dX5_aim_63 (lv_at hl 0 rfl) ?_
      refine lv_imul hx hb dX5_aim_65 ?_
      refine lv_icmp_gt (tgt := 83) hx hb dX5_aim_66 (by decide) (fun c66_9 => ?_) (fun c66_9 => ?_)
      · have c66_9 : (5 * x4_21) < (12 * x3_13) := c66_9
        refine lv_aload_n hx hb dX5_aim_83 rfl (lv_at hl 2 rfl) ?_
        refine rg (v := .int (LX (G 1) c)) (T := TX5) (N := 14) (C := RX5) hx hb hts hinX5 hown hK hP hM rfl 12 (by decide) (hts (.fieldLink RX5 47 "NeedleGridModel" "fx" "I") (by decide +kernel)) rfl dX5_aim_84 ?_
        refine lv_if_le (tgt := 106) hx hb dX5_aim_87 (by decide) (fun c87_10 => ?_) (fun c87_10 => ?_)
        · have c87_10 : (LX (G 1) c) ≤ 0 := c87_10
          refine lv_aload_n hx hb dX5_aim_106 rfl (lv_at hl 2 rfl) ?_
          refine rg (v := .int (LY (G 1) c)) (T := TX5) (N := 14) (C := RX5) hx hb hts hinX5 hown hK hP hM rfl 13 (by decide) (hts (.fieldLink RX5 53 "NeedleGridModel" "fy" "I") (by decide +kernel)) rfl dX5_aim_107 ?_
          refine lv_if_le (tgt := 117) hx hb dX5_aim_110 (by decide) (fun c110_11 => ?_) (fun c110_11 => ?_)
          · have c110_11 : (LY (G 1) c) ≤ 0 := c110_11
            refine lv_iconst (v := 5) hx hb dX5_aim_117 (by decide) ?_
            exact hret _ _ _ _ _ _ hP hD hS (⟨by subst ex3_13 ex4_21; delta mAim aimOf aimO; simp only [if_neg c24_7, if_pos c42_8, if_pos c66_9, if_pos c87_10, if_pos c110_11], hM, hf⟩) dX5_aim_118
          · have c110_11 : ¬ (LY (G 1) c) ≤ 0 := c110_11
            refine lv_iconst (v := 3) hx hb dX5_aim_113 (by decide) ?_
            refine lv_goto (tgt := 118) hx hb dX5_aim_114 (by decide) ?_
            exact hret _ _ _ _ _ _ hP hD hS (⟨by subst ex3_13 ex4_21; delta mAim aimOf aimO; simp only [if_neg c24_7, if_pos c42_8, if_pos c66_9, if_pos c87_10, if_neg c110_11], hM, hf⟩) dX5_aim_118
        · have c87_10 : ¬ (LX (G 1) c) ≤ 0 := c87_10
          refine lv_aload_n hx hb dX5_aim_90 rfl (lv_at hl 2 rfl) ?_
          refine rg (v := .int (LY (G 1) c)) (T := TX5) (N := 14) (C := RX5) hx hb hts hinX5 hown hK hP hM rfl 13 (by decide) (hts (.fieldLink RX5 53 "NeedleGridModel" "fy" "I") (by decide +kernel)) rfl dX5_aim_91 ?_
          refine lv_if_le (tgt := 101) hx hb dX5_aim_94 (by decide) (fun c94_12 => ?_) (fun c94_12 => ?_)
          · have c94_12 : (LY (G 1) c) ≤ 0 := c94_12
            refine lv_bipush (v := 7) hx hb dX5_aim_101 (by decide) ?_
            refine lv_goto (tgt := 118) hx hb dX5_aim_103 (by decide) ?_
            exact hret _ _ _ _ _ _ hP hD hS (⟨by subst ex3_13 ex4_21; delta mAim aimOf aimO; simp only [if_neg c24_7, if_pos c42_8, if_pos c66_9, if_neg c87_10, if_pos c94_12], hM, hf⟩) dX5_aim_118
          · have c94_12 : ¬ (LY (G 1) c) ≤ 0 := c94_12
            refine lv_iconst (v := 1) hx hb dX5_aim_97 (by decide) ?_
            refine lv_goto (tgt := 118) hx hb dX5_aim_98 (by decide) ?_
            exact hret _ _ _ _ _ _ hP hD hS (⟨by subst ex3_13 ex4_21; delta mAim aimOf aimO; simp only [if_neg c24_7, if_pos c42_8, if_pos c66_9, if_neg c87_10, if_neg c94_12], hM, hf⟩) dX5_aim_118
      · have c66_9 : ¬ (5 * x4_21) < (12 * x3_13) := c66_9
        refine lv_aload_n hx hb dX5_aim_69 rfl (lv_at hl 2 rfl) ?_
        refine rg (v := .int (LY (G 1) c)) (T := TX5) (N := 14) (C := RX5) hx hb hts hinX5 hown hK hP hM rfl 13 (by decide) (hts (.fieldLink RX5 53 "NeedleGridModel" "fy" "I") (by decide +kernel)) rfl dX5_aim_70 ?_
        refine lv_if_le (tgt := 80) hx hb dX5_aim_73 (by decide) (fun c73_13 => ?_) (fun c73_13 => ?_)
        · have c73_13 : (LY (G 1) c) ≤ 0 := c73_13
          refine lv_bipush (v := 6) hx hb dX5_aim_80 (by decide) ?_
          exact hret _ _ _ _ _ _ hP hD hS (⟨by subst ex3_13 ex4_21; delta mAim aimOf aimO; simp only [if_neg c24_7, if_pos c42_8, if_neg c66_9, if_pos c73_13], hM, hf⟩) dX5_aim_82
        · have c73_13 : ¬ (LY (G 1) c) ≤ 0 := c73_13
          refine lv_iconst (v := 2) hx hb dX5_aim_76 (by decide) ?_
          refine lv_goto (tgt := 82) hx hb dX5_aim_77 (by decide) ?_
          exact hret _ _ _ _ _ _ hP hD hS (⟨by subst ex3_13 ex4_21; delta mAim aimOf aimO; simp only [if_neg c24_7, if_pos c42_8, if_neg c66_9, if_neg c73_13], hM, hf⟩) dX5_aim_82
    · have c42_8 : ¬ (5 * x3_13) < (12 * x4_21) := c42_8
      refine lv_aload_n hx hb dX5_aim_45 rfl (lv_at hl 2 rfl) ?_
      refine rg (v := .int (LX (G 1) c)) (T := TX5) (N := 14) (C := RX5) hx hb hts hinX5 hown hK hP hM rfl 12 (by decide) (hts (.fieldLink RX5 47 "NeedleGridModel" "fx" "I") (by decide +kernel)) rfl dX5_aim_46 ?_
      refine lv_if_le (tgt := 56) hx hb dX5_aim_49 (by decide) (fun c49_14 => ?_) (fun c49_14 => ?_)
      · have c49_14 : (LX (G 1) c) ≤ 0 := c49_14
        refine lv_iconst (v := 4) hx hb dX5_aim_56 (by decide) ?_
        exact hret _ _ _ _ _ _ hP hD hS (⟨by subst ex3_13 ex4_21; delta mAim aimOf aimO; simp only [if_neg c24_7, if_neg c42_8, if_pos c49_14], hM, hf⟩) dX5_aim_57
      · have c49_14 : ¬ (LX (G 1) c) ≤ 0 := c49_14
        refine lv_iconst (v := 0) hx hb dX5_aim_52 (by decide) ?_
        refine lv_goto (tgt := 57) hx hb dX5_aim_53 (by decide) ?_
        exact hret _ _ _ _ _ _ hP hD hS (⟨by subst ex3_13 ex4_21; delta mAim aimOf aimO; simp only [if_neg c24_7, if_neg c42_8, if_neg c49_14], hM, hf⟩) dX5_aim_57
  · refine lv_iload hx hb dX5_aim_27 (lv_at hl 0 rfl) ?_
    refine lv_if_ne (tgt := 34) hx hb dX5_aim_29 (by decide) (fun c29_15 => ?_) (fun c29_15 => ?_)
    · refine lv_bipush (v := 12) hx hb dX5_aim_34 (by decide) ?_
      refine lv_iload hx hb dX5_aim_36 (lv_at hl 0 rfl) ?_
      refine lv_imul hx hb dX5_aim_38 ?_
      refine lv_iconst (v := 5) hx hb dX5_aim_39 (by decide) ?_
      refine lv_iload_n hx hb dX5_aim_40 rfl (lv_at hl 1 rfl) ?_
      refine lv_imul hx hb dX5_aim_41 ?_
      refine lv_icmp_gt (tgt := 58) hx hb dX5_aim_42 (by decide) (fun c42_16 => ?_) (fun c42_16 => ?_)
      · have c42_16 : (5 * x3_13) < (12 * x4_21) := c42_16
        refine lv_bipush (v := 12) hx hb dX5_aim_58 (by decide) ?_
        refine lv_iload_n hx hb dX5_aim_60 rfl (lv_at hl 1 rfl) ?_
        refine lv_imul hx hb dX5_aim_61 ?_
        refine lv_iconst (v := 5) hx hb dX5_aim_62 (by decide) ?_
        refine lv_iload hx hb dX5_aim_63 (lv_at hl 0 rfl) ?_
        refine lv_imul hx hb dX5_aim_65 ?_
        refine lv_icmp_gt (tgt := 83) hx hb dX5_aim_66 (by decide) (fun c66_17 => ?_) (fun c66_17 => ?_)
        · have c66_17 : (5 * x4_21) < (12 * x3_13) := c66_17
          refine lv_aload_n hx hb dX5_aim_83 rfl (lv_at hl 2 rfl) ?_
          refine rg (v := .int (LX (G 1) c)) (T := TX5) (N := 14) (C := RX5) hx hb hts hinX5 hown hK hP hM rfl 12 (by decide) (hts (.fieldLink RX5 47 "NeedleGridModel" "fx" "I") (by decide +kernel)) rfl dX5_aim_84 ?_
          refine lv_if_le (tgt := 106) hx hb dX5_aim_87 (by decide) (fun c87_18 => ?_) (fun c87_18 => ?_)
          · have c87_18 : (LX (G 1) c) ≤ 0 := c87_18
            refine lv_aload_n hx hb dX5_aim_106 rfl (lv_at hl 2 rfl) ?_
            refine rg (v := .int (LY (G 1) c)) (T := TX5) (N := 14) (C := RX5) hx hb hts hinX5 hown hK hP hM rfl 13 (by decide) (hts (.fieldLink RX5 53 "NeedleGridModel" "fy" "I") (by decide +kernel)) rfl dX5_aim_107 ?_
            refine lv_if_le (tgt := 117) hx hb dX5_aim_110 (by decide) (fun c110_19 => ?_) (fun c110_19 => ?_)
            · have c110_19 : (LY (G 1) c) ≤ 0 := c110_19
              refine lv_iconst (v := 5) hx hb dX5_aim_117 (by decide) ?_
              exact hret _ _ _ _ _ _ hP hD hS (⟨by subst ex3_13 ex4_21; delta mAim aimOf aimO; simp only [if_pos c24_7, if_neg c29_15, if_pos c42_16, if_pos c66_17, if_pos c87_18, if_pos c110_19], hM, hf⟩) dX5_aim_118
            · have c110_19 : ¬ (LY (G 1) c) ≤ 0 := c110_19
              refine lv_iconst (v := 3) hx hb dX5_aim_113 (by decide) ?_
              refine lv_goto (tgt := 118) hx hb dX5_aim_114 (by decide) ?_
              exact hret _ _ _ _ _ _ hP hD hS (⟨by subst ex3_13 ex4_21; delta mAim aimOf aimO; simp only [if_pos c24_7, if_neg c29_15, if_pos c42_16, if_pos c66_17, if_pos c87_18, if_neg c110_19], hM, hf⟩) dX5_aim_118
          · have c87_18 : ¬ (LX (G 1) c) ≤ 0 := c87_18
            refine lv_aload_n hx hb dX5_aim_90 rfl (lv_at hl 2 rfl) ?_
            refine rg (v := .int (LY (G 1) c)) (T := TX5) (N := 14) (C := RX5) hx hb hts hinX5 hown hK hP hM rfl 13 (by decide) (hts (.fieldLink RX5 53 "NeedleGridModel" "fy" "I") (by decide +kernel)) rfl dX5_aim_91 ?_
            refine lv_if_le (tgt := 101) hx hb dX5_aim_94 (by decide) (fun c94_20 => ?_) (fun c94_20 => ?_)
            · have c94_20 : (LY (G 1) c) ≤ 0 := c94_20
              refine lv_bipush (v := 7) hx hb dX5_aim_101 (by decide) ?_
              refine lv_goto (tgt := 118) hx hb dX5_aim_103 (by decide) ?_
              exact hret _ _ _ _ _ _ hP hD hS (⟨by subst ex3_13 ex4_21; delta mAim aimOf aimO; simp only [if_pos c24_7, if_neg c29_15, if_pos c42_16, if_pos c66_17, if_neg c87_18, if_pos c94_20], hM, hf⟩) dX5_aim_118
            · have c94_20 : ¬ (LY (G 1) c) ≤ 0 := c94_20
              refine lv_iconst (v := 1) hx hb dX5_aim_97 (by decide) ?_
              refine lv_goto (tgt := 118) hx hb dX5_aim_98 (by decide) ?_
              exact hret _ _ _ _ _ _ hP hD hS (⟨by subst ex3_13 ex4_21; delta mAim aimOf aimO; simp only [if_pos c24_7, if_neg c29_15, if_pos c42_16, if_pos c66_17, if_neg c87_18, if_neg c94_20], hM, hf⟩) dX5_aim_118
        · have c66_17 : ¬ (5 * x4_21) < (12 * x3_13) := c66_17
          refine lv_aload_n hx hb dX5_aim_69 rfl (lv_at hl 2 rfl) ?_
          refine rg (v := .int (LY (G 1) c)) (T := TX5) (N := 14) (C := RX5) hx hb hts hinX5 hown hK hP hM rfl 13 (by decide) (hts (.fieldLink RX5 53 "NeedleGridModel" "fy" "I") (by decide +kernel)) rfl dX5_aim_70 ?_
          refine lv_if_le (tgt := 80) hx hb dX5_aim_73 (by decide) (fun c73_21 => ?_) (fun c73_21 => ?_)
          · have c73_21 : (LY (G 1) c) ≤ 0 := c73_21
            refine lv_bipush (v := 6) hx hb dX5_aim_80 (by decide) ?_
            exact hret _ _ _ _ _ _ hP hD hS (⟨by subst ex3_13 ex4_21; delta mAim aimOf aimO; simp only [if_pos c24_7, if_neg c29_15, if_pos c42_16, if_neg c66_17, if_pos c73_21], hM, hf⟩) dX5_aim_82
          · have c73_21 : ¬ (LY (G 1) c) ≤ 0 := c73_21
            refine lv_iconst (v := 2) hx hb dX5_aim_76 (by decide) ?_
            refine lv_goto (tgt := 82) hx hb dX5_aim_77 (by decide) ?_
            exact hret _ _ _ _ _ _ hP hD hS (⟨by subst ex3_13 ex4_21; delta mAim aimOf aimO; simp only [if_pos c24_7, if_neg c29_15, if_pos c42_16, if_neg c66_17, if_neg c73_21], hM, hf⟩) dX5_aim_82
      · have c42_16 : ¬ (5 * x3_13) < (12 * x4_21) := c42_16
        refine lv_aload_n hx hb dX5_aim_45 rfl (lv_at hl 2 rfl) ?_
        refine rg (v := .int (LX (G 1) c)) (T := TX5) (N := 14) (C := RX5) hx hb hts hinX5 hown hK hP hM rfl 12 (by decide) (hts (.fieldLink RX5 47 "NeedleGridModel" "fx" "I") (by decide +kernel)) rfl dX5_aim_46 ?_
        refine lv_if_le (tgt := 56) hx hb dX5_aim_49 (by decide) (fun c49_22 => ?_) (fun c49_22 => ?_)
        · have c49_22 : (LX (G 1) c) ≤ 0 := c49_22
          refine lv_iconst (v := 4) hx hb dX5_aim_56 (by decide) ?_
          exact hret _ _ _ _ _ _ hP hD hS (⟨by subst ex3_13 ex4_21; delta mAim aimOf aimO; simp only [if_pos c24_7, if_neg c29_15, if_neg c42_16, if_pos c49_22], hM, hf⟩) dX5_aim_57
        · have c49_22 : ¬ (LX (G 1) c) ≤ 0 := c49_22
          refine lv_iconst (v := 0) hx hb dX5_aim_52 (by decide) ?_
          refine lv_goto (tgt := 57) hx hb dX5_aim_53 (by decide) ?_
          exact hret _ _ _ _ _ _ hP hD hS (⟨by subst ex3_13 ex4_21; delta mAim aimOf aimO; simp only [if_pos c24_7, if_neg c29_15, if_neg c42_16, if_neg c49_22], hM, hf⟩) dX5_aim_57
    · refine lv_iconst (v := -1) hx hb dX5_aim_32 (by decide) ?_
      exact hret _ _ _ _ _ _ hP hD hS (⟨by subst ex3_13 ex4_21; delta mAim aimOf aimO; simp only [if_pos c24_7, if_pos c29_15], hM, hf⟩) dX5_aim_33

set_option maxHeartbeats 4000000 in
set_option maxRecDepth 100000 in
theorem m_turned0 (l : Launch) (E : NE) (ad : Nat → Nat) (st : NW) (b : Nat) (G : Nat → Nat → Int32) (hM : isR E ad st b sM G) (c : Nat) (hc : c < 36) (hdB : okB (G 0)) : nMi l yX5_turned wsX5_turned (nRm 6 142) E ad st [.ref (ad b), .ref (ad (b + 1 + 0)), .int (nI c)] (fun r s1 => r = mTu (G 0) c ∧ isR E ad s1 b sM (gu (gu G 12 (fun _ => LX (G 0) c)) 13 (fun _ => LY (G 0) c)) ∧ fr b st s1) := by
  refine nSi (cc := cX5_turned) (maxL := 5) (by decide) rfl (Nat.le_of_ble_eq_true rfl) ?_
  intro pg en s mi ar bw mth cd R Q A ls hx hb hml hown hts hRm hP hK hD hZ hA hl hret
  subst hRm
  have hown : s.vm.findClass RX5 = some mi.cls := hown
  have hS : va_S A s.heap s.heap [] := va_S.rf
  have hl : lv_has ls 5 [(0, .ref (ad b)), (1, .ref (ad (b + 1 + 0))), (2, .int (nI c))] := hl
  have hf : fr b st st := fr.rf
  have hinX5 : ∀ w ∈ wsX50, w ∈ wsX5_turned := by decide +kernel
  refine lv_aload_n hx hb dX5_turned_0 rfl (lv_at hl 1 rfl) ?_
  refine lv_bipush (v := 6) hx hb dX5_turned_1 (by decide) ?_
  refine lv_iload_n hx hb dX5_turned_3 rfl (lv_at hl 2 rfl) ?_
  refine lv_iadd hx hb dX5_turned_4 ?_
  rw [show 6 + nI c = nI (6 + c) from nI_add 6 c]
  refine ra (j := (6 + c)) (n := 186) hx hb hK hP hM 0 rfl (by omega) (by decide) dX5_turned_5 ?_
  refine lv_topi (fun x3_6 ex3_6 => ?_)
  have ex3_6 : x3_6 = G 0 (6 + c) := ex3_6
  refine lv_istore_n (lv' := [(3, .int x3_6), (0, .ref (ad b)), (1, .ref (ad (b + 1 + 0))), (2, .int (nI c))]) hx hb dX5_turned_6 rfl hl (by decide) rfl (fun ls hl => ?_)
  refine lv_aload_n hx hb dX5_turned_7 rfl (lv_at hl 1 rfl) ?_
  refine lv_aload_n hx hb dX5_turned_8 rfl (lv_at hl 2 rfl) ?_
  refine lv_iload_n hx hb dX5_turned_9 rfl (lv_at hl 3 rfl) ?_
  refine nVi (As := [.ref (ad (b + 1 + 0)), .int (nI c)]) (rest := _) hx hb hml hown hts hP hK hD hZ hA hS ⟨Nat.zero_le _, Nat.zero_le _⟩ hM.1 rfl (m_aim0 l E ad st b G hM c (by omega) hdB) (cwV 2 hts gX5_turned_X5_aim rfl rfl rfl (by decide +kernel) ⟨Nat.le_of_ble_eq_true rfl, Nat.le_of_ble_eq_true rfl⟩) hl.1 rfl (Nat.le_of_ble_eq_true rfl) dX5_turned_10 (fun r_1 s_3 H locs hq hP hD hS => ?_)
  obtain ⟨hrr_1, hM, hf_2⟩ := hq
  have hrr_1 : r_1 = mAim (G 0) c := hrr_1
  have hf := hf.tr hf_2
  refine lv_istore (lv' := [(4, .int r_1), (3, .int x3_6), (0, .ref (ad b)), (1, .ref (ad (b + 1 + 0))), (2, .int (nI c))]) hx hb dX5_turned_13 hl (by decide) rfl (fun ls hl => ?_)
  refine lv_aload_n hx hb dX5_turned_15 rfl (lv_at hl 3 rfl) ?_
  refine lv_bipush (v := 78) hx hb dX5_turned_16 (by decide) ?_
  refine lv_iload_n hx hb dX5_turned_18 rfl (lv_at hl 4 rfl) ?_
  refine lv_iadd hx hb dX5_turned_19 ?_
  rw [show 78 + nI c = nI (78 + c) from nI_add 78 c]
  refine ra (j := (78 + c)) (n := 186) hx hb hK hP hM 0 rfl (by omega) (by decide) dX5_turned_20 ?_
  refine lv_iconst (v := 1) hx hb dX5_turned_21 (by decide) ?_
  refine lv_icmp_eq (tgt := 61) hx hb dX5_turned_22 (by decide) (fun c22_3 => ?_) (fun c22_3 => ?_)
  · have c22_3 : (G 0 (78 + c)) = 1 := c22_3
    refine lv_iload_n hx hb dX5_turned_61 rfl (lv_at hl 1 rfl) ?_
    exact hret _ _ _ _ _ _ hP hD hS (⟨by subst ex3_6 hrr_1; delta mTu; simp only [if_pos c22_3], hM, hf⟩) dX5_turned_62
  · have c22_3 : ¬ (G 0 (78 + c)) = 1 := c22_3
    refine lv_iload hx hb dX5_turned_25 (lv_at hl 0 rfl) ?_
    refine lv_iconst (v := -1) hx hb dX5_turned_27 (by decide) ?_
    refine lv_icmp_eq (tgt := 61) hx hb dX5_turned_28 (by decide) (fun c28_4 => ?_) (fun c28_4 => ?_)
    · refine lv_iload_n hx hb dX5_turned_61 rfl (lv_at hl 1 rfl) ?_
      exact hret _ _ _ _ _ _ hP hD hS (⟨by subst ex3_6 hrr_1; delta mTu; simp only [if_neg c22_3, if_pos c28_4], hM, hf⟩) dX5_turned_62
    · refine lv_iload hx hb dX5_turned_31 (lv_at hl 0 rfl) ?_
      refine lv_iload_n hx hb dX5_turned_33 rfl (lv_at hl 1 rfl) ?_
      refine lv_icmp_eq (tgt := 61) hx hb dX5_turned_34 (by decide) (fun c34_5 => ?_) (fun c34_5 => ?_)
      · refine lv_iload_n hx hb dX5_turned_61 rfl (lv_at hl 1 rfl) ?_
        exact hret _ _ _ _ _ _ hP hD hS (⟨by subst ex3_6 hrr_1; delta mTu; simp only [if_neg c22_3, if_neg c28_4, if_pos c34_5], hM, hf⟩) dX5_turned_62
      · refine lv_aload_n hx hb dX5_turned_37 rfl (lv_at hl 2 rfl) ?_
        refine rg (v := .int (LX (G 0) c)) (T := TX5) (N := 14) (C := RX5) hx hb hts hinX5 hown hK hP hM rfl 12 (by decide) (hts (.fieldLink RX5 47 "NeedleGridModel" "fx" "I") (by decide +kernel)) rfl dX5_turned_38 ?_
        refine nS_i (As := [.int (LX (G 0) c)]) (rest := _) hx hb hml hown hts hP hK hD hZ hA hS ⟨Nat.zero_le _, Nat.zero_le _⟩ (m_size l E ad s_3 (LX (G 0) c)) (va_cwS 1 hts gX5_turned_X5_size rfl rfl rfl (by decide +kernel) ⟨Nat.le_of_ble_eq_true rfl, Nat.le_of_ble_eq_true rfl⟩) hl.1 rfl (Nat.le_of_ble_eq_true rfl) dX5_turned_41 (fun r_7 s_8 H locs hq hP hD hS => ?_)
        obtain ⟨rfl, rfl⟩ := hq
        refine lv_aload_n hx hb dX5_turned_44 rfl (lv_at hl 2 rfl) ?_
        refine rg (v := .int (LY (G 0) c)) (T := TX5) (N := 14) (C := RX5) hx hb hts hinX5 hown hK hP hM rfl 13 (by decide) (hts (.fieldLink RX5 53 "NeedleGridModel" "fy" "I") (by decide +kernel)) rfl dX5_turned_45 ?_
        refine nS_i (As := [.int (LY (G 0) c)]) (rest := _) hx hb hml hown hts hP hK hD hZ hA hS ⟨Nat.zero_le _, Nat.zero_le _⟩ (m_size l E ad s_3 (LY (G 0) c)) (va_cwS 1 hts gX5_turned_X5_size rfl rfl rfl (by decide +kernel) ⟨Nat.le_of_ble_eq_true rfl, Nat.le_of_ble_eq_true rfl⟩) hl.1 rfl (Nat.le_of_ble_eq_true rfl) dX5_turned_48 (fun r_9 s_10 H locs hq hP hD hS => ?_)
        obtain ⟨rfl, rfl⟩ := hq
        refine lv_iadd hx hb dX5_turned_51 ?_
        refine lv_aload_n hx hb dX5_turned_52 rfl (lv_at hl 3 rfl) ?_
        refine lv_bipush (v := 42) hx hb dX5_turned_53 (by decide) ?_
        refine lv_iload_n hx hb dX5_turned_55 rfl (lv_at hl 4 rfl) ?_
        refine lv_iadd hx hb dX5_turned_56 ?_
        rw [show 42 + nI c = nI (42 + c) from nI_add 42 c]
        refine ra (j := (42 + c)) (n := 186) hx hb hK hP hM 0 rfl (by omega) (by decide) dX5_turned_57 ?_
        refine lv_icmp_gt (tgt := 63) hx hb dX5_turned_58 (by decide) (fun c58_10 => ?_) (fun c58_10 => ?_)
        · have c58_10 : (G 0 (42 + c)) < ((ab (LX (G 0) c)) + (ab (LY (G 0) c))) := c58_10
          refine lv_iload hx hb dX5_turned_63 (lv_at hl 0 rfl) ?_
          refine lv_iload_n hx hb dX5_turned_65 rfl (lv_at hl 1 rfl) ?_
          refine lv_isub hx hb dX5_turned_66 ?_
          refine lv_bipush (v := 8) hx hb dX5_turned_67 (by decide) ?_
          refine lv_iadd hx hb dX5_turned_69 ?_
          refine lv_bipush (v := 8) hx hb dX5_turned_70 (by decide) ?_
          refine lv_irem hx hb dX5_turned_72 (by decide) ?_
          refine lv_iconst (v := 4) hx hb dX5_turned_73 (by decide) ?_
          refine lv_icmp_gt (tgt := 86) hx hb dX5_turned_74 (by decide) (fun c74_11 => ?_) (fun c74_11 => ?_)
          · have c74_11 : 4 < (((r_1 - x3_6) + 8) - ((r_1 - x3_6) + 8) / 8 * 8) := c74_11
            refine lv_iload_n hx hb dX5_turned_86 rfl (lv_at hl 1 rfl) ?_
            refine lv_bipush (v := 7) hx hb dX5_turned_87 (by decide) ?_
            refine lv_iadd hx hb dX5_turned_89 ?_
            refine lv_bipush (v := 8) hx hb dX5_turned_90 (by decide) ?_
            refine lv_irem hx hb dX5_turned_92 (by decide) ?_
            exact hret _ _ _ _ _ _ hP hD hS (⟨by subst ex3_6 hrr_1; delta mTu; simp only [if_neg c22_3, if_neg c28_4, if_neg c34_5, if_pos c58_10, if_pos c74_11], hM, hf⟩) dX5_turned_93
          · have c74_11 : ¬ 4 < (((r_1 - x3_6) + 8) - ((r_1 - x3_6) + 8) / 8 * 8) := c74_11
            refine lv_iload_n hx hb dX5_turned_77 rfl (lv_at hl 1 rfl) ?_
            refine lv_iconst (v := 1) hx hb dX5_turned_78 (by decide) ?_
            refine lv_iadd hx hb dX5_turned_79 ?_
            refine lv_bipush (v := 8) hx hb dX5_turned_80 (by decide) ?_
            refine lv_irem hx hb dX5_turned_82 (by decide) ?_
            refine lv_goto (tgt := 93) hx hb dX5_turned_83 (by decide) ?_
            exact hret _ _ _ _ _ _ hP hD hS (⟨by subst ex3_6 hrr_1; delta mTu; simp only [if_neg c22_3, if_neg c28_4, if_neg c34_5, if_pos c58_10, if_neg c74_11], hM, hf⟩) dX5_turned_93
        · have c58_10 : ¬ (G 0 (42 + c)) < ((ab (LX (G 0) c)) + (ab (LY (G 0) c))) := c58_10
          refine lv_iload_n hx hb dX5_turned_61 rfl (lv_at hl 1 rfl) ?_
          exact hret _ _ _ _ _ _ hP hD hS (⟨by subst ex3_6 hrr_1; delta mTu; simp only [if_neg c22_3, if_neg c28_4, if_neg c34_5, if_neg c58_10], hM, hf⟩) dX5_turned_62

set_option maxHeartbeats 4000000 in
set_option maxRecDepth 100000 in
theorem m_turned1 (l : Launch) (E : NE) (ad : Nat → Nat) (st : NW) (b : Nat) (G : Nat → Nat → Int32) (hM : isR E ad st b sM G) (c : Nat) (hc : c < 36) (hdB : okB (G 1)) : nMi l yX5_turned wsX5_turned (nRm 6 142) E ad st [.ref (ad b), .ref (ad (b + 1 + 1)), .int (nI c)] (fun r s1 => r = mTu (G 1) c ∧ isR E ad s1 b sM (gu (gu G 12 (fun _ => LX (G 1) c)) 13 (fun _ => LY (G 1) c)) ∧ fr b st s1) := by
  refine nSi (cc := cX5_turned) (maxL := 5) (by decide) rfl (Nat.le_of_ble_eq_true rfl) ?_
  intro pg en s mi ar bw mth cd R Q A ls hx hb hml hown hts hRm hP hK hD hZ hA hl hret
  subst hRm
  have hown : s.vm.findClass RX5 = some mi.cls := hown
  have hS : va_S A s.heap s.heap [] := va_S.rf
  have hl : lv_has ls 5 [(0, .ref (ad b)), (1, .ref (ad (b + 1 + 1))), (2, .int (nI c))] := hl
  have hf : fr b st st := fr.rf
  have hinX5 : ∀ w ∈ wsX50, w ∈ wsX5_turned := by decide +kernel
  refine lv_aload_n hx hb dX5_turned_0 rfl (lv_at hl 1 rfl) ?_
  refine lv_bipush (v := 6) hx hb dX5_turned_1 (by decide) ?_
  refine lv_iload_n hx hb dX5_turned_3 rfl (lv_at hl 2 rfl) ?_
  refine lv_iadd hx hb dX5_turned_4 ?_
  rw [show 6 + nI c = nI (6 + c) from nI_add 6 c]
  refine ra (j := (6 + c)) (n := 186) hx hb hK hP hM 1 rfl (by omega) (by decide) dX5_turned_5 ?_
  refine lv_topi (fun x3_6 ex3_6 => ?_)
  have ex3_6 : x3_6 = G 1 (6 + c) := ex3_6
  refine lv_istore_n (lv' := [(3, .int x3_6), (0, .ref (ad b)), (1, .ref (ad (b + 1 + 1))), (2, .int (nI c))]) hx hb dX5_turned_6 rfl hl (by decide) rfl (fun ls hl => ?_)
  refine lv_aload_n hx hb dX5_turned_7 rfl (lv_at hl 1 rfl) ?_
  refine lv_aload_n hx hb dX5_turned_8 rfl (lv_at hl 2 rfl) ?_
  refine lv_iload_n hx hb dX5_turned_9 rfl (lv_at hl 3 rfl) ?_
  refine nVi (As := [.ref (ad (b + 1 + 1)), .int (nI c)]) (rest := _) hx hb hml hown hts hP hK hD hZ hA hS ⟨Nat.zero_le _, Nat.zero_le _⟩ hM.1 rfl (m_aim1 l E ad st b G hM c (by omega) hdB) (cwV 2 hts gX5_turned_X5_aim rfl rfl rfl (by decide +kernel) ⟨Nat.le_of_ble_eq_true rfl, Nat.le_of_ble_eq_true rfl⟩) hl.1 rfl (Nat.le_of_ble_eq_true rfl) dX5_turned_10 (fun r_1 s_3 H locs hq hP hD hS => ?_)
  obtain ⟨hrr_1, hM, hf_2⟩ := hq
  have hrr_1 : r_1 = mAim (G 1) c := hrr_1
  have hf := hf.tr hf_2
  refine lv_istore (lv' := [(4, .int r_1), (3, .int x3_6), (0, .ref (ad b)), (1, .ref (ad (b + 1 + 1))), (2, .int (nI c))]) hx hb dX5_turned_13 hl (by decide) rfl (fun ls hl => ?_)
  refine lv_aload_n hx hb dX5_turned_15 rfl (lv_at hl 3 rfl) ?_
  refine lv_bipush (v := 78) hx hb dX5_turned_16 (by decide) ?_
  refine lv_iload_n hx hb dX5_turned_18 rfl (lv_at hl 4 rfl) ?_
  refine lv_iadd hx hb dX5_turned_19 ?_
  rw [show 78 + nI c = nI (78 + c) from nI_add 78 c]
  refine ra (j := (78 + c)) (n := 186) hx hb hK hP hM 1 rfl (by omega) (by decide) dX5_turned_20 ?_
  refine lv_iconst (v := 1) hx hb dX5_turned_21 (by decide) ?_
  refine lv_icmp_eq (tgt := 61) hx hb dX5_turned_22 (by decide) (fun c22_3 => ?_) (fun c22_3 => ?_)
  · have c22_3 : (G 1 (78 + c)) = 1 := c22_3
    refine lv_iload_n hx hb dX5_turned_61 rfl (lv_at hl 1 rfl) ?_
    exact hret _ _ _ _ _ _ hP hD hS (⟨by subst ex3_6 hrr_1; delta mTu; simp only [if_pos c22_3], hM, hf⟩) dX5_turned_62
  · have c22_3 : ¬ (G 1 (78 + c)) = 1 := c22_3
    refine lv_iload hx hb dX5_turned_25 (lv_at hl 0 rfl) ?_
    refine lv_iconst (v := -1) hx hb dX5_turned_27 (by decide) ?_
    refine lv_icmp_eq (tgt := 61) hx hb dX5_turned_28 (by decide) (fun c28_4 => ?_) (fun c28_4 => ?_)
    · refine lv_iload_n hx hb dX5_turned_61 rfl (lv_at hl 1 rfl) ?_
      exact hret _ _ _ _ _ _ hP hD hS (⟨by subst ex3_6 hrr_1; delta mTu; simp only [if_neg c22_3, if_pos c28_4], hM, hf⟩) dX5_turned_62
    · refine lv_iload hx hb dX5_turned_31 (lv_at hl 0 rfl) ?_
      refine lv_iload_n hx hb dX5_turned_33 rfl (lv_at hl 1 rfl) ?_
      refine lv_icmp_eq (tgt := 61) hx hb dX5_turned_34 (by decide) (fun c34_5 => ?_) (fun c34_5 => ?_)
      · refine lv_iload_n hx hb dX5_turned_61 rfl (lv_at hl 1 rfl) ?_
        exact hret _ _ _ _ _ _ hP hD hS (⟨by subst ex3_6 hrr_1; delta mTu; simp only [if_neg c22_3, if_neg c28_4, if_pos c34_5], hM, hf⟩) dX5_turned_62
      · refine lv_aload_n hx hb dX5_turned_37 rfl (lv_at hl 2 rfl) ?_
        refine rg (v := .int (LX (G 1) c)) (T := TX5) (N := 14) (C := RX5) hx hb hts hinX5 hown hK hP hM rfl 12 (by decide) (hts (.fieldLink RX5 47 "NeedleGridModel" "fx" "I") (by decide +kernel)) rfl dX5_turned_38 ?_
        refine nS_i (As := [.int (LX (G 1) c)]) (rest := _) hx hb hml hown hts hP hK hD hZ hA hS ⟨Nat.zero_le _, Nat.zero_le _⟩ (m_size l E ad s_3 (LX (G 1) c)) (va_cwS 1 hts gX5_turned_X5_size rfl rfl rfl (by decide +kernel) ⟨Nat.le_of_ble_eq_true rfl, Nat.le_of_ble_eq_true rfl⟩) hl.1 rfl (Nat.le_of_ble_eq_true rfl) dX5_turned_41 (fun r_7 s_8 H locs hq hP hD hS => ?_)
        obtain ⟨rfl, rfl⟩ := hq
        refine lv_aload_n hx hb dX5_turned_44 rfl (lv_at hl 2 rfl) ?_
        refine rg (v := .int (LY (G 1) c)) (T := TX5) (N := 14) (C := RX5) hx hb hts hinX5 hown hK hP hM rfl 13 (by decide) (hts (.fieldLink RX5 53 "NeedleGridModel" "fy" "I") (by decide +kernel)) rfl dX5_turned_45 ?_
        refine nS_i (As := [.int (LY (G 1) c)]) (rest := _) hx hb hml hown hts hP hK hD hZ hA hS ⟨Nat.zero_le _, Nat.zero_le _⟩ (m_size l E ad s_3 (LY (G 1) c)) (va_cwS 1 hts gX5_turned_X5_size rfl rfl rfl (by decide +kernel) ⟨Nat.le_of_ble_eq_true rfl, Nat.le_of_ble_eq_true rfl⟩) hl.1 rfl (Nat.le_of_ble_eq_true rfl) dX5_turned_48 (fun r_9 s_10 H locs hq hP hD hS => ?_)
        obtain ⟨rfl, rfl⟩ := hq
        refine lv_iadd hx hb dX5_turned_51 ?_
        refine lv_aload_n hx hb dX5_turned_52 rfl (lv_at hl 3 rfl) ?_
        refine lv_bipush (v := 42) hx hb dX5_turned_53 (by decide) ?_
        refine lv_iload_n hx hb dX5_turned_55 rfl (lv_at hl 4 rfl) ?_
        refine lv_iadd hx hb dX5_turned_56 ?_
        rw [show 42 + nI c = nI (42 + c) from nI_add 42 c]
        refine ra (j := (42 + c)) (n := 186) hx hb hK hP hM 1 rfl (by omega) (by decide) dX5_turned_57 ?_
        refine lv_icmp_gt (tgt := 63) hx hb dX5_turned_58 (by decide) (fun c58_10 => ?_) (fun c58_10 => ?_)
        · have c58_10 : (G 1 (42 + c)) < ((ab (LX (G 1) c)) + (ab (LY (G 1) c))) := c58_10
          refine lv_iload hx hb dX5_turned_63 (lv_at hl 0 rfl) ?_
          refine lv_iload_n hx hb dX5_turned_65 rfl (lv_at hl 1 rfl) ?_
          refine lv_isub hx hb dX5_turned_66 ?_
          refine lv_bipush (v := 8) hx hb dX5_turned_67 (by decide) ?_
          refine lv_iadd hx hb dX5_turned_69 ?_
          refine lv_bipush (v := 8) hx hb dX5_turned_70 (by decide) ?_
          refine lv_irem hx hb dX5_turned_72 (by decide) ?_
          refine lv_iconst (v := 4) hx hb dX5_turned_73 (by decide) ?_
          refine lv_icmp_gt (tgt := 86) hx hb dX5_turned_74 (by decide) (fun c74_11 => ?_) (fun c74_11 => ?_)
          · have c74_11 : 4 < (((r_1 - x3_6) + 8) - ((r_1 - x3_6) + 8) / 8 * 8) := c74_11
            refine lv_iload_n hx hb dX5_turned_86 rfl (lv_at hl 1 rfl) ?_
            refine lv_bipush (v := 7) hx hb dX5_turned_87 (by decide) ?_
            refine lv_iadd hx hb dX5_turned_89 ?_
            refine lv_bipush (v := 8) hx hb dX5_turned_90 (by decide) ?_
            refine lv_irem hx hb dX5_turned_92 (by decide) ?_
            exact hret _ _ _ _ _ _ hP hD hS (⟨by subst ex3_6 hrr_1; delta mTu; simp only [if_neg c22_3, if_neg c28_4, if_neg c34_5, if_pos c58_10, if_pos c74_11], hM, hf⟩) dX5_turned_93
          · have c74_11 : ¬ 4 < (((r_1 - x3_6) + 8) - ((r_1 - x3_6) + 8) / 8 * 8) := c74_11
            refine lv_iload_n hx hb dX5_turned_77 rfl (lv_at hl 1 rfl) ?_
            refine lv_iconst (v := 1) hx hb dX5_turned_78 (by decide) ?_
            refine lv_iadd hx hb dX5_turned_79 ?_
            refine lv_bipush (v := 8) hx hb dX5_turned_80 (by decide) ?_
            refine lv_irem hx hb dX5_turned_82 (by decide) ?_
            refine lv_goto (tgt := 93) hx hb dX5_turned_83 (by decide) ?_
            exact hret _ _ _ _ _ _ hP hD hS (⟨by subst ex3_6 hrr_1; delta mTu; simp only [if_neg c22_3, if_neg c28_4, if_neg c34_5, if_pos c58_10, if_neg c74_11], hM, hf⟩) dX5_turned_93
        · have c58_10 : ¬ (G 1 (42 + c)) < ((ab (LX (G 1) c)) + (ab (LY (G 1) c))) := c58_10
          refine lv_iload_n hx hb dX5_turned_61 rfl (lv_at hl 1 rfl) ?_
          exact hret _ _ _ _ _ _ hP hD hS (⟨by subst ex3_6 hrr_1; delta mTu; simp only [if_neg c22_3, if_neg c28_4, if_neg c34_5, if_neg c58_10], hM, hf⟩) dX5_turned_62

set_option maxHeartbeats 4000000 in
set_option maxRecDepth 100000 in
theorem m_away0 (l : Launch) (E : NE) (ad : Nat → Nat) (st : NW) (b : Nat) (G : Nat → Nat → Int32) (hM : isR E ad st b sM G) (c : Nat) (hc : c < 36) (hdB : okB (G 0)) : nMi l yX5_away wsX5_away (nRm 6 142) E ad st [.ref (ad b), .ref (ad (b + 1 + 0)), .int (nI c)] (fun r s1 => r = mAw (G 0) c ∧ isR E ad s1 b sM (gu (gu G 12 (fun _ => LX (G 0) c)) 13 (fun _ => LY (G 0) c)) ∧ fr b st s1) := by
  refine nSi (cc := cX5_away) (maxL := 5) (by decide) rfl (Nat.le_of_ble_eq_true rfl) ?_
  intro pg en s mi ar bw mth cd R Q A ls hx hb hml hown hts hRm hP hK hD hZ hA hl hret
  subst hRm
  have hown : s.vm.findClass RX5 = some mi.cls := hown
  have hS : va_S A s.heap s.heap [] := va_S.rf
  have hl : lv_has ls 5 [(0, .ref (ad b)), (1, .ref (ad (b + 1 + 0))), (2, .int (nI c))] := hl
  have hf : fr b st st := fr.rf
  have hinX5 : ∀ w ∈ wsX50, w ∈ wsX5_away := by decide +kernel
  refine lv_aload_n hx hb dX5_away_0 rfl (lv_at hl 0 rfl) ?_
  refine lv_aload_n hx hb dX5_away_1 rfl (lv_at hl 1 rfl) ?_
  refine lv_iload_n hx hb dX5_away_2 rfl (lv_at hl 2 rfl) ?_
  refine nVi (As := [.ref (ad (b + 1 + 0)), .int (nI c)]) (rest := _) hx hb hml hown hts hP hK hD hZ hA hS ⟨Nat.zero_le _, Nat.zero_le _⟩ hM.1 rfl (m_aim0 l E ad st b G hM c (by omega) hdB) (cwV 2 hts gX5_away_X5_aim rfl rfl rfl (by decide +kernel) ⟨Nat.le_of_ble_eq_true rfl, Nat.le_of_ble_eq_true rfl⟩) hl.1 rfl (Nat.le_of_ble_eq_true rfl) dX5_away_3 (fun r_1 s_3 H locs hq hP hD hS => ?_)
  obtain ⟨hrr_1, hM, hf_2⟩ := hq
  have hrr_1 : r_1 = mAim (G 0) c := hrr_1
  have hf := hf.tr hf_2
  refine lv_istore_n (lv' := [(3, .int r_1), (0, .ref (ad b)), (1, .ref (ad (b + 1 + 0))), (2, .int (nI c))]) hx hb dX5_away_6 rfl hl (by decide) rfl (fun ls hl => ?_)
  refine lv_iload_n hx hb dX5_away_7 rfl (lv_at hl 0 rfl) ?_
  refine lv_aload_n hx hb dX5_away_8 rfl (lv_at hl 2 rfl) ?_
  refine lv_bipush (v := 6) hx hb dX5_away_9 (by decide) ?_
  refine lv_iload_n hx hb dX5_away_11 rfl (lv_at hl 3 rfl) ?_
  refine lv_iadd hx hb dX5_away_12 ?_
  rw [show 6 + nI c = nI (6 + c) from nI_add 6 c]
  refine ra (j := (6 + c)) (n := 186) hx hb hK hP hM 0 rfl (by omega) (by decide) dX5_away_13 ?_
  refine lv_isub hx hb dX5_away_14 ?_
  refine lv_bipush (v := 8) hx hb dX5_away_15 (by decide) ?_
  refine lv_iadd hx hb dX5_away_17 ?_
  refine lv_bipush (v := 8) hx hb dX5_away_18 (by decide) ?_
  refine lv_irem hx hb dX5_away_20 (by decide) ?_
  refine lv_topi (fun x4_21 ex4_21 => ?_)
  have ex4_21 : x4_21 = ((r_1 - (G 0 (6 + c))) + 8) - ((r_1 - (G 0 (6 + c))) + 8) / 8 * 8 := ex4_21
  refine lv_istore (lv' := [(4, .int x4_21), (3, .int r_1), (0, .ref (ad b)), (1, .ref (ad (b + 1 + 0))), (2, .int (nI c))]) hx hb dX5_away_21 hl (by decide) rfl (fun ls hl => ?_)
  refine lv_iload_n hx hb dX5_away_23 rfl (lv_at hl 1 rfl) ?_
  refine lv_iconst (v := -1) hx hb dX5_away_24 (by decide) ?_
  refine lv_icmp_ne (tgt := 32) hx hb dX5_away_25 (by decide) (fun c25_3 => ?_) (fun c25_3 => ?_)
  · refine lv_iload hx hb dX5_away_32 (lv_at hl 0 rfl) ?_
    refine lv_iconst (v := 4) hx hb dX5_away_34 (by decide) ?_
    refine lv_icmp_le (tgt := 46) hx hb dX5_away_35 (by decide) (fun c35_4 => ?_) (fun c35_4 => ?_)
    · have c35_4 := le_nlt c35_4
      refine lv_iload hx hb dX5_away_46 (lv_at hl 0 rfl) ?_
      exact hret _ _ _ _ _ _ hP hD hS (⟨by subst hrr_1 ex4_21; delta mAw; simp only [if_neg c25_3, if_neg c35_4], hM, hf⟩) dX5_away_48
    · have c35_4 := nle_lt c35_4
      refine lv_bipush (v := 8) hx hb dX5_away_38 (by decide) ?_
      refine lv_iload hx hb dX5_away_40 (lv_at hl 0 rfl) ?_
      refine lv_isub hx hb dX5_away_42 ?_
      refine lv_goto (tgt := 48) hx hb dX5_away_43 (by decide) ?_
      exact hret _ _ _ _ _ _ hP hD hS (⟨by subst hrr_1 ex4_21; delta mAw; simp only [if_neg c25_3, if_pos c35_4], hM, hf⟩) dX5_away_48
  · refine lv_iconst (v := -1) hx hb dX5_away_28 (by decide) ?_
    refine lv_goto (tgt := 48) hx hb dX5_away_29 (by decide) ?_
    exact hret _ _ _ _ _ _ hP hD hS (⟨by subst hrr_1 ex4_21; delta mAw; simp only [if_pos c25_3], hM, hf⟩) dX5_away_48

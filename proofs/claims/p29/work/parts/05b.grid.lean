set_option maxHeartbeats 4000000 in
set_option maxRecDepth 100000 in
theorem c_addNeedle (l : Launch) (E : NE) (ad : Nat → Nat) (st : NW) (b : Nat) (G : Nat → Nat → Int32) (hR : isR E ad st b sG G) (c : Nat) (hc : c < 36) : nMv l yX2_addNeedleToNeighbours wsX2_addNeedleToNeighbours (nRm 1 23) E ad st [.ref (ad b), .int (nI c)] (fun s1 => isR E ad s1 b sG (gu (gu G 11 (addN (G 11) c (G 5 2 * acr (G 0 c)))) 12 (addN (G 12) c (G 5 2 * dwn (G 0 c)))) ∧ fr b st s1) := by
  refine nSv (cc := cX2_addNeedleToNeighbours) (maxL := 5) (by decide) rfl (Nat.le_of_ble_eq_true rfl) ?_
  intro pg en s mi ar bw mth cd R Q A ls hx hb hml hown hts hRm hP hK hD hZ hA hl hret
  subst hRm
  have hown : s.vm.findClass RX2 = some mi.cls := hown
  have hS : va_S A s.heap s.heap [] := va_S.rf
  have hl : lv_has ls 5 [(0, .ref (ad b)), (1, .int (nI c))] := hl
  have hf : fr b st st := fr.rf
  have hinX2 : ∀ w ∈ wsX20, w ∈ wsX2_addNeedleToNeighbours := by decide +kernel
  refine lv_iload_n hx hb dX2_addNeedleToNeighbours_0 rfl (lv_at hl 1 rfl) ?_
  refine lv_bipush (v := 6) hx hb dX2_addNeedleToNeighbours_1 (by decide) ?_
  refine lv_irem hx hb dX2_addNeedleToNeighbours_3 (by decide) ?_
  rw [rm6_nI (by omega)]
  refine lv_istore_n (lv' := [(2, .int (nI (c % 6))), (0, .ref (ad b)), (1, .int (nI c))]) hx hb dX2_addNeedleToNeighbours_4 rfl hl (by decide) rfl (fun ls hl => ?_)
  refine lv_aload_n hx hb dX2_addNeedleToNeighbours_5 rfl (lv_at hl 1 rfl) ?_
  refine rg (v := .ref (ad (b + 1 + 5))) (T := TX2) (N := 13) (C := RX2) hx hb hts hinX2 hown hK hP hR rfl 5 (by decide) (hts (.fieldLink RX2 28 "NeedleGrid$Grid" "settings" "[I") (by decide +kernel)) rfl dX2_addNeedleToNeighbours_6 ?_
  refine lv_iconst (v := 2) hx hb dX2_addNeedleToNeighbours_9 (by decide) ?_
  refine ra (j := 2) (n := 3) hx hb hK hP hR 5 rfl (by omega) (by decide) dX2_addNeedleToNeighbours_10 ?_
  refine lv_aload_n hx hb dX2_addNeedleToNeighbours_11 rfl (lv_at hl 1 rfl) ?_
  refine rg (v := .ref (ad (b + 1 + 0))) (T := TX2) (N := 13) (C := RX2) hx hb hts hinX2 hown hK hP hR rfl 0 (by decide) (hts (.fieldLink RX2 9 "NeedleGrid$Grid" "directions" "[I") (by decide +kernel)) rfl dX2_addNeedleToNeighbours_12 ?_
  refine lv_iload_n hx hb dX2_addNeedleToNeighbours_15 rfl (lv_at hl 2 rfl) ?_
  refine ra (j := c) (n := 36) hx hb hK hP hR 0 rfl (by omega) (by decide) dX2_addNeedleToNeighbours_16 ?_
  refine nNi (As := [.int (G 0 c)]) (rest := _) hx hb hml hown hts hP hK hD hZ hA hS ⟨Nat.zero_le _, Nat.zero_le _⟩ (c_across l E ad st (G 0 c)) ⟨va_cnB 1 hts gX2_addNeedleToNeighbours_X4_across_n56 rfl rfl rfl (nlM_X2_56 hZ) (hts (.initialized RX4) (by decide +kernel)) (by decide +kernel) ⟨Nat.le_of_ble_eq_true rfl, Nat.le_of_ble_eq_true rfl⟩, hts (.static yX4_across) (by decide +kernel), trivial⟩ hl.1 rfl (Nat.le_of_ble_eq_true rfl) dX2_addNeedleToNeighbours_17 (fun r_1 s_2 H locs hq hP hD hS => ?_)
  obtain ⟨rfl, rfl⟩ := hq
  refine lv_imul hx hb dX2_addNeedleToNeighbours_20 ?_
  refine lv_topi (fun x3_21 ex3_21 => ?_)
  refine lv_istore_n (lv' := [(3, .int x3_21), (2, .int (nI (c % 6))), (0, .ref (ad b)), (1, .int (nI c))]) hx hb dX2_addNeedleToNeighbours_21 rfl hl (by decide) rfl (fun ls hl => ?_)
  refine lv_aload_n hx hb dX2_addNeedleToNeighbours_22 rfl (lv_at hl 2 rfl) ?_
  refine rg (v := .ref (ad (b + 1 + 5))) (T := TX2) (N := 13) (C := RX2) hx hb hts hinX2 hown hK hP hR rfl 5 (by decide) (hts (.fieldLink RX2 28 "NeedleGrid$Grid" "settings" "[I") (by decide +kernel)) rfl dX2_addNeedleToNeighbours_23 ?_
  refine lv_iconst (v := 2) hx hb dX2_addNeedleToNeighbours_26 (by decide) ?_
  refine ra (j := 2) (n := 3) hx hb hK hP hR 5 rfl (by omega) (by decide) dX2_addNeedleToNeighbours_27 ?_
  refine lv_aload_n hx hb dX2_addNeedleToNeighbours_28 rfl (lv_at hl 2 rfl) ?_
  refine rg (v := .ref (ad (b + 1 + 0))) (T := TX2) (N := 13) (C := RX2) hx hb hts hinX2 hown hK hP hR rfl 0 (by decide) (hts (.fieldLink RX2 9 "NeedleGrid$Grid" "directions" "[I") (by decide +kernel)) rfl dX2_addNeedleToNeighbours_29 ?_
  refine lv_iload_n hx hb dX2_addNeedleToNeighbours_32 rfl (lv_at hl 3 rfl) ?_
  refine ra (j := c) (n := 36) hx hb hK hP hR 0 rfl (by omega) (by decide) dX2_addNeedleToNeighbours_33 ?_
  refine nNi (As := [.int (G 0 c)]) (rest := _) hx hb hml hown hts hP hK hD hZ hA hS ⟨Nat.zero_le _, Nat.zero_le _⟩ (c_down l E ad st (G 0 c)) ⟨va_cnB 1 hts gX2_addNeedleToNeighbours_X4_down_n60 rfl rfl rfl (nlM_X2_60 hZ) (hts (.initialized RX4) (by decide +kernel)) (by decide +kernel) ⟨Nat.le_of_ble_eq_true rfl, Nat.le_of_ble_eq_true rfl⟩, hts (.static yX4_down) (by decide +kernel), trivial⟩ hl.1 rfl (Nat.le_of_ble_eq_true rfl) dX2_addNeedleToNeighbours_34 (fun r_3 s_4 H locs hq hP hD hS => ?_)
  obtain ⟨rfl, rfl⟩ := hq
  refine lv_imul hx hb dX2_addNeedleToNeighbours_37 ?_
  refine lv_topi (fun x4_38 ex4_38 => ?_)
  refine lv_istore (lv' := [(4, .int x4_38), (3, .int x3_21), (2, .int (nI (c % 6))), (0, .ref (ad b)), (1, .int (nI c))]) hx hb dX2_addNeedleToNeighbours_38 hl (by decide) rfl (fun ls hl => ?_)
  refine lv_iload_n hx hb dX2_addNeedleToNeighbours_40 rfl (lv_at hl 4 rfl) ?_
  refine lv_bipush (v := 6) hx hb dX2_addNeedleToNeighbours_41 (by decide) ?_
  refine lv_icmp_lt (tgt := 57) hx hb dX2_addNeedleToNeighbours_43 (by decide) (fun c43_4 => ?_) (fun c43_4 => ?_)
  · have q1 : ¬ 6 ≤ c := by have := (nI_ltL (n := 6) (i := c) rfl (by decide) (by omega)).mp c43_4; omega
    refine lv_iload_n hx hb dX2_addNeedleToNeighbours_57 rfl (lv_at hl 4 rfl) ?_
    refine lv_bipush (v := 30) hx hb dX2_addNeedleToNeighbours_58 (by decide) ?_
    refine lv_icmp_ge (tgt := 74) hx hb dX2_addNeedleToNeighbours_60 (by decide) (fun c60_5 => ?_) (fun c60_5 => ?_)
    · have q2 : ¬ c < 30 := by have := (nI_geL (n := 30) (i := c) rfl (by decide) (by omega)).mp c60_5; omega
      refine lv_iload_n hx hb dX2_addNeedleToNeighbours_74 rfl (lv_at hl 2 rfl) ?_
      refine lv_if_le (tgt := 88) hx hb dX2_addNeedleToNeighbours_75 (by decide) (fun c75_6 => ?_) (fun c75_6 => ?_)
      · have q3 : ¬ 0 < c % 6 := by have := (nI_leL (n := 0) (i := c % 6) rfl (by decide) (by omega)).mp c75_6; omega
        refine lv_iload_n hx hb dX2_addNeedleToNeighbours_88 rfl (lv_at hl 2 rfl) ?_
        refine lv_iconst (v := 5) hx hb dX2_addNeedleToNeighbours_89 (by decide) ?_
        refine lv_icmp_ge (tgt := 103) hx hb dX2_addNeedleToNeighbours_90 (by decide) (fun c90_7 => ?_) (fun c90_7 => ?_)
        · have q4 : ¬ c % 6 < 5 := by have := (nI_geL (n := 5) (i := c % 6) rfl (by decide) (by omega)).mp c90_7; omega
          have hR : isR E ad st b sG (gu (gu G 11 (addN (G 11) c (G 5 2 * acr (G 0 c)))) 12 (addN (G 12) c (G 5 2 * dwn (G 0 c)))) := by subst ex3_21 ex4_38; exact hR.eq (fun k9 _ => by simp only [addN, q1, q2, q3, q4, if_true, if_false, gu] <;> (repeat' split) <;> first | rfl | omega)
          exact hret _ _ _ _ _ hP hD hS (⟨hR, hf⟩) dX2_addNeedleToNeighbours_103
        · have q4 : c % 6 < 5 := by have := mt (nI_geL (n := 5) (i := c % 6) rfl (by decide) (by omega)).mpr c90_7; omega
          refine lv_aload_n hx hb dX2_addNeedleToNeighbours_93 rfl (lv_at hl 3 rfl) ?_
          refine lv_iload_n hx hb dX2_addNeedleToNeighbours_94 rfl (lv_at hl 4 rfl) ?_
          refine lv_iconst (v := 1) hx hb dX2_addNeedleToNeighbours_95 (by decide) ?_
          refine lv_iadd hx hb dX2_addNeedleToNeighbours_96 ?_
          rw [nI_1]
          refine lv_iload_n hx hb dX2_addNeedleToNeighbours_97 rfl (lv_at hl 1 rfl) ?_
          refine lv_iload hx hb dX2_addNeedleToNeighbours_98 (lv_at hl 0 rfl) ?_
          refine nVv (As := [.int (nI (c + 1)), .int x3_21, .int x4_38]) (rest := _) hx hb hml hown hts hP hK hD hZ hA hS ⟨Nat.zero_le _, Nat.zero_le _⟩ hR.1 rfl (c_addToField l E ad st b G hR (c + 1) (by omega) x3_21 x4_38) (cwV 3 hts gX2_addNeedleToNeighbours_X2_addToField rfl rfl rfl (by decide +kernel) ⟨Nat.le_of_ble_eq_true rfl, Nat.le_of_ble_eq_true rfl⟩) hl.1 rfl (Nat.le_of_ble_eq_true rfl) dX2_addNeedleToNeighbours_100 (fun s_11 H locs hq hP hD hS => ?_)
          obtain ⟨hR, hf_10⟩ := hq
          have hf := hf.tr hf_10
          have hR : isR E ad s_11 b sG (gu (gu G 11 (addN (G 11) c (G 5 2 * acr (G 0 c)))) 12 (addN (G 12) c (G 5 2 * dwn (G 0 c)))) := by subst ex3_21 ex4_38; exact hR.eq (fun k9 _ => by simp only [addN, q1, q2, q3, q4, if_true, if_false, gu] <;> (repeat' split) <;> first | rfl | omega)
          exact hret _ _ _ _ _ hP hD hS (⟨hR, hf⟩) dX2_addNeedleToNeighbours_103
      · have q3 : 0 < c % 6 := by have := mt (nI_leL (n := 0) (i := c % 6) rfl (by decide) (by omega)).mpr c75_6; omega
        refine lv_aload_n hx hb dX2_addNeedleToNeighbours_78 rfl (lv_at hl 3 rfl) ?_
        refine lv_iload_n hx hb dX2_addNeedleToNeighbours_79 rfl (lv_at hl 4 rfl) ?_
        refine lv_iconst (v := 1) hx hb dX2_addNeedleToNeighbours_80 (by decide) ?_
        refine lv_isub hx hb dX2_addNeedleToNeighbours_81 ?_
        rw [nI_subL (c := c) (N := 1) (n := 1) rfl (by omega)]
        refine lv_iload_n hx hb dX2_addNeedleToNeighbours_82 rfl (lv_at hl 1 rfl) ?_
        refine lv_iload hx hb dX2_addNeedleToNeighbours_83 (lv_at hl 0 rfl) ?_
        refine nVv (As := [.int (nI (c - 1)), .int x3_21, .int x4_38]) (rest := _) hx hb hml hown hts hP hK hD hZ hA hS ⟨Nat.zero_le _, Nat.zero_le _⟩ hR.1 rfl (c_addToField l E ad st b G hR (c - 1) (by omega) x3_21 x4_38) (cwV 3 hts gX2_addNeedleToNeighbours_X2_addToField rfl rfl rfl (by decide +kernel) ⟨Nat.le_of_ble_eq_true rfl, Nat.le_of_ble_eq_true rfl⟩) hl.1 rfl (Nat.le_of_ble_eq_true rfl) dX2_addNeedleToNeighbours_85 (fun s_14 H locs hq hP hD hS => ?_)
        obtain ⟨hR, hf_13⟩ := hq
        have hf := hf.tr hf_13
        refine lv_iload_n hx hb dX2_addNeedleToNeighbours_88 rfl (lv_at hl 2 rfl) ?_
        refine lv_iconst (v := 5) hx hb dX2_addNeedleToNeighbours_89 (by decide) ?_
        refine lv_icmp_ge (tgt := 103) hx hb dX2_addNeedleToNeighbours_90 (by decide) (fun c90_14 => ?_) (fun c90_14 => ?_)
        · have q4 : ¬ c % 6 < 5 := by have := (nI_geL (n := 5) (i := c % 6) rfl (by decide) (by omega)).mp c90_14; omega
          have hR : isR E ad s_14 b sG (gu (gu G 11 (addN (G 11) c (G 5 2 * acr (G 0 c)))) 12 (addN (G 12) c (G 5 2 * dwn (G 0 c)))) := by subst ex3_21 ex4_38; exact hR.eq (fun k9 _ => by simp only [addN, q1, q2, q3, q4, if_true, if_false, gu] <;> (repeat' split) <;> first | rfl | omega)
          exact hret _ _ _ _ _ hP hD hS (⟨hR, hf⟩) dX2_addNeedleToNeighbours_103
        · have q4 : c % 6 < 5 := by have := mt (nI_geL (n := 5) (i := c % 6) rfl (by decide) (by omega)).mpr c90_14; omega
          refine lv_aload_n hx hb dX2_addNeedleToNeighbours_93 rfl (lv_at hl 3 rfl) ?_
          refine lv_iload_n hx hb dX2_addNeedleToNeighbours_94 rfl (lv_at hl 4 rfl) ?_
          refine lv_iconst (v := 1) hx hb dX2_addNeedleToNeighbours_95 (by decide) ?_
          refine lv_iadd hx hb dX2_addNeedleToNeighbours_96 ?_
          rw [nI_1]
          refine lv_iload_n hx hb dX2_addNeedleToNeighbours_97 rfl (lv_at hl 1 rfl) ?_
          refine lv_iload hx hb dX2_addNeedleToNeighbours_98 (lv_at hl 0 rfl) ?_
          refine nVv (As := [.int (nI (c + 1)), .int x3_21, .int x4_38]) (rest := _) hx hb hml hown hts hP hK hD hZ hA hS ⟨Nat.zero_le _, Nat.zero_le _⟩ hR.1 rfl (c_addToField l E ad s_14 b (gu (gu G 11 (upd (G 11) (c - 1) ((G 11) (c - 1) + x3_21))) 12 (upd (G 12) (c - 1) ((G 12) (c - 1) + x4_38))) hR (c + 1) (by omega) x3_21 x4_38) (cwV 3 hts gX2_addNeedleToNeighbours_X2_addToField rfl rfl rfl (by decide +kernel) ⟨Nat.le_of_ble_eq_true rfl, Nat.le_of_ble_eq_true rfl⟩) hl.1 rfl (Nat.le_of_ble_eq_true rfl) dX2_addNeedleToNeighbours_100 (fun s_18 H locs hq hP hD hS => ?_)
          obtain ⟨hR, hf_17⟩ := hq
          have hf := hf.tr hf_17
          have hR : isR E ad s_18 b sG (gu (gu G 11 (upd (upd (G 11) (c - 1) ((G 11) (c - 1) + x3_21)) (c + 1) ((upd (G 11) (c - 1) ((G 11) (c - 1) + x3_21)) (c + 1) + x3_21))) 12 (upd (upd (G 12) (c - 1) ((G 12) (c - 1) + x4_38)) (c + 1) ((upd (G 12) (c - 1) ((G 12) (c - 1) + x4_38)) (c + 1) + x4_38))) := hR.eq (all13 rfl rfl rfl rfl rfl rfl rfl rfl rfl rfl rfl rfl rfl)
          have hR : isR E ad s_18 b sG (gu (gu G 11 (addN (G 11) c (G 5 2 * acr (G 0 c)))) 12 (addN (G 12) c (G 5 2 * dwn (G 0 c)))) := by subst ex3_21 ex4_38; exact hR.eq (fun k9 _ => by simp only [addN, q1, q2, q3, q4, if_true, if_false, gu] <;> (repeat' split) <;> first | rfl | omega)
          exact hret _ _ _ _ _ hP hD hS (⟨hR, hf⟩) dX2_addNeedleToNeighbours_103
    · have q2 : c < 30 := by have := mt (nI_geL (n := 30) (i := c) rfl (by decide) (by omega)).mpr c60_5; omega
      refine lv_aload_n hx hb dX2_addNeedleToNeighbours_63 rfl (lv_at hl 3 rfl) ?_
      refine lv_iload_n hx hb dX2_addNeedleToNeighbours_64 rfl (lv_at hl 4 rfl) ?_
      refine lv_bipush (v := 6) hx hb dX2_addNeedleToNeighbours_65 (by decide) ?_
      refine lv_iadd hx hb dX2_addNeedleToNeighbours_67 ?_
      rw [show nI c + 6 = nI (c + 6) from nI_add c 6]
      refine lv_iload_n hx hb dX2_addNeedleToNeighbours_68 rfl (lv_at hl 1 rfl) ?_
      refine lv_iload hx hb dX2_addNeedleToNeighbours_69 (lv_at hl 0 rfl) ?_
      refine nVv (As := [.int (nI (c + 6)), .int x3_21, .int x4_38]) (rest := _) hx hb hml hown hts hP hK hD hZ hA hS ⟨Nat.zero_le _, Nat.zero_le _⟩ hR.1 rfl (c_addToField l E ad st b G hR (c + 6) (by omega) x3_21 x4_38) (cwV 3 hts gX2_addNeedleToNeighbours_X2_addToField rfl rfl rfl (by decide +kernel) ⟨Nat.le_of_ble_eq_true rfl, Nat.le_of_ble_eq_true rfl⟩) hl.1 rfl (Nat.le_of_ble_eq_true rfl) dX2_addNeedleToNeighbours_71 (fun s_21 H locs hq hP hD hS => ?_)
      obtain ⟨hR, hf_20⟩ := hq
      have hf := hf.tr hf_20
      refine lv_iload_n hx hb dX2_addNeedleToNeighbours_74 rfl (lv_at hl 2 rfl) ?_
      refine lv_if_le (tgt := 88) hx hb dX2_addNeedleToNeighbours_75 (by decide) (fun c75_21 => ?_) (fun c75_21 => ?_)
      · have q3 : ¬ 0 < c % 6 := by have := (nI_leL (n := 0) (i := c % 6) rfl (by decide) (by omega)).mp c75_21; omega
        refine lv_iload_n hx hb dX2_addNeedleToNeighbours_88 rfl (lv_at hl 2 rfl) ?_
        refine lv_iconst (v := 5) hx hb dX2_addNeedleToNeighbours_89 (by decide) ?_
        refine lv_icmp_ge (tgt := 103) hx hb dX2_addNeedleToNeighbours_90 (by decide) (fun c90_22 => ?_) (fun c90_22 => ?_)
        · have q4 : ¬ c % 6 < 5 := by have := (nI_geL (n := 5) (i := c % 6) rfl (by decide) (by omega)).mp c90_22; omega
          have hR : isR E ad s_21 b sG (gu (gu G 11 (addN (G 11) c (G 5 2 * acr (G 0 c)))) 12 (addN (G 12) c (G 5 2 * dwn (G 0 c)))) := by subst ex3_21 ex4_38; exact hR.eq (fun k9 _ => by simp only [addN, q1, q2, q3, q4, if_true, if_false, gu] <;> (repeat' split) <;> first | rfl | omega)
          exact hret _ _ _ _ _ hP hD hS (⟨hR, hf⟩) dX2_addNeedleToNeighbours_103
        · have q4 : c % 6 < 5 := by have := mt (nI_geL (n := 5) (i := c % 6) rfl (by decide) (by omega)).mpr c90_22; omega
          refine lv_aload_n hx hb dX2_addNeedleToNeighbours_93 rfl (lv_at hl 3 rfl) ?_
          refine lv_iload_n hx hb dX2_addNeedleToNeighbours_94 rfl (lv_at hl 4 rfl) ?_
          refine lv_iconst (v := 1) hx hb dX2_addNeedleToNeighbours_95 (by decide) ?_
          refine lv_iadd hx hb dX2_addNeedleToNeighbours_96 ?_
          rw [nI_1]
          refine lv_iload_n hx hb dX2_addNeedleToNeighbours_97 rfl (lv_at hl 1 rfl) ?_
          refine lv_iload hx hb dX2_addNeedleToNeighbours_98 (lv_at hl 0 rfl) ?_
          refine nVv (As := [.int (nI (c + 1)), .int x3_21, .int x4_38]) (rest := _) hx hb hml hown hts hP hK hD hZ hA hS ⟨Nat.zero_le _, Nat.zero_le _⟩ hR.1 rfl (c_addToField l E ad s_21 b (gu (gu G 11 (upd (G 11) (c + 6) ((G 11) (c + 6) + x3_21))) 12 (upd (G 12) (c + 6) ((G 12) (c + 6) + x4_38))) hR (c + 1) (by omega) x3_21 x4_38) (cwV 3 hts gX2_addNeedleToNeighbours_X2_addToField rfl rfl rfl (by decide +kernel) ⟨Nat.le_of_ble_eq_true rfl, Nat.le_of_ble_eq_true rfl⟩) hl.1 rfl (Nat.le_of_ble_eq_true rfl) dX2_addNeedleToNeighbours_100 (fun s_26 H locs hq hP hD hS => ?_)
          obtain ⟨hR, hf_25⟩ := hq
          have hf := hf.tr hf_25
          have hR : isR E ad s_26 b sG (gu (gu G 11 (upd (upd (G 11) (c + 6) ((G 11) (c + 6) + x3_21)) (c + 1) ((upd (G 11) (c + 6) ((G 11) (c + 6) + x3_21)) (c + 1) + x3_21))) 12 (upd (upd (G 12) (c + 6) ((G 12) (c + 6) + x4_38)) (c + 1) ((upd (G 12) (c + 6) ((G 12) (c + 6) + x4_38)) (c + 1) + x4_38))) := hR.eq (all13 rfl rfl rfl rfl rfl rfl rfl rfl rfl rfl rfl rfl rfl)
          have hR : isR E ad s_26 b sG (gu (gu G 11 (addN (G 11) c (G 5 2 * acr (G 0 c)))) 12 (addN (G 12) c (G 5 2 * dwn (G 0 c)))) := by subst ex3_21 ex4_38; exact hR.eq (fun k9 _ => by simp only [addN, q1, q2, q3, q4, if_true, if_false, gu] <;> (repeat' split) <;> first | rfl | omega)
          exact hret _ _ _ _ _ hP hD hS (⟨hR, hf⟩) dX2_addNeedleToNeighbours_103
      · have q3 : 0 < c % 6 := by have := mt (nI_leL (n := 0) (i := c % 6) rfl (by decide) (by omega)).mpr c75_21; omega
        refine lv_aload_n hx hb dX2_addNeedleToNeighbours_78 rfl (lv_at hl 3 rfl) ?_
        refine lv_iload_n hx hb dX2_addNeedleToNeighbours_79 rfl (lv_at hl 4 rfl) ?_
        refine lv_iconst (v := 1) hx hb dX2_addNeedleToNeighbours_80 (by decide) ?_
        refine lv_isub hx hb dX2_addNeedleToNeighbours_81 ?_
        rw [nI_subL (c := c) (N := 1) (n := 1) rfl (by omega)]
        refine lv_iload_n hx hb dX2_addNeedleToNeighbours_82 rfl (lv_at hl 1 rfl) ?_
        refine lv_iload hx hb dX2_addNeedleToNeighbours_83 (lv_at hl 0 rfl) ?_
        refine nVv (As := [.int (nI (c - 1)), .int x3_21, .int x4_38]) (rest := _) hx hb hml hown hts hP hK hD hZ hA hS ⟨Nat.zero_le _, Nat.zero_le _⟩ hR.1 rfl (c_addToField l E ad s_21 b (gu (gu G 11 (upd (G 11) (c + 6) ((G 11) (c + 6) + x3_21))) 12 (upd (G 12) (c + 6) ((G 12) (c + 6) + x4_38))) hR (c - 1) (by omega) x3_21 x4_38) (cwV 3 hts gX2_addNeedleToNeighbours_X2_addToField rfl rfl rfl (by decide +kernel) ⟨Nat.le_of_ble_eq_true rfl, Nat.le_of_ble_eq_true rfl⟩) hl.1 rfl (Nat.le_of_ble_eq_true rfl) dX2_addNeedleToNeighbours_85 (fun s_29 H locs hq hP hD hS => ?_)
        obtain ⟨hR, hf_28⟩ := hq
        have hf := hf.tr hf_28
        have hR : isR E ad s_29 b sG (gu (gu G 11 (upd (upd (G 11) (c + 6) ((G 11) (c + 6) + x3_21)) (c - 1) ((upd (G 11) (c + 6) ((G 11) (c + 6) + x3_21)) (c - 1) + x3_21))) 12 (upd (upd (G 12) (c + 6) ((G 12) (c + 6) + x4_38)) (c - 1) ((upd (G 12) (c + 6) ((G 12) (c + 6) + x4_38)) (c - 1) + x4_38))) := hR.eq (all13 rfl rfl rfl rfl rfl rfl rfl rfl rfl rfl rfl rfl rfl)
        refine lv_iload_n hx hb dX2_addNeedleToNeighbours_88 rfl (lv_at hl 2 rfl) ?_
        refine lv_iconst (v := 5) hx hb dX2_addNeedleToNeighbours_89 (by decide) ?_
        refine lv_icmp_ge (tgt := 103) hx hb dX2_addNeedleToNeighbours_90 (by decide) (fun c90_29 => ?_) (fun c90_29 => ?_)
        · have q4 : ¬ c % 6 < 5 := by have := (nI_geL (n := 5) (i := c % 6) rfl (by decide) (by omega)).mp c90_29; omega
          have hR : isR E ad s_29 b sG (gu (gu G 11 (addN (G 11) c (G 5 2 * acr (G 0 c)))) 12 (addN (G 12) c (G 5 2 * dwn (G 0 c)))) := by subst ex3_21 ex4_38; exact hR.eq (fun k9 _ => by simp only [addN, q1, q2, q3, q4, if_true, if_false, gu] <;> (repeat' split) <;> first | rfl | omega)
          exact hret _ _ _ _ _ hP hD hS (⟨hR, hf⟩) dX2_addNeedleToNeighbours_103
        · have q4 : c % 6 < 5 := by have := mt (nI_geL (n := 5) (i := c % 6) rfl (by decide) (by omega)).mpr c90_29; omega
          refine lv_aload_n hx hb dX2_addNeedleToNeighbours_93 rfl (lv_at hl 3 rfl) ?_
          refine lv_iload_n hx hb dX2_addNeedleToNeighbours_94 rfl (lv_at hl 4 rfl) ?_
          refine lv_iconst (v := 1) hx hb dX2_addNeedleToNeighbours_95 (by decide) ?_
          refine lv_iadd hx hb dX2_addNeedleToNeighbours_96 ?_
          rw [nI_1]
          refine lv_iload_n hx hb dX2_addNeedleToNeighbours_97 rfl (lv_at hl 1 rfl) ?_
          refine lv_iload hx hb dX2_addNeedleToNeighbours_98 (lv_at hl 0 rfl) ?_
          refine nVv (As := [.int (nI (c + 1)), .int x3_21, .int x4_38]) (rest := _) hx hb hml hown hts hP hK hD hZ hA hS ⟨Nat.zero_le _, Nat.zero_le _⟩ hR.1 rfl (c_addToField l E ad s_29 b (gu (gu G 11 (upd (upd (G 11) (c + 6) ((G 11) (c + 6) + x3_21)) (c - 1) ((upd (G 11) (c + 6) ((G 11) (c + 6) + x3_21)) (c - 1) + x3_21))) 12 (upd (upd (G 12) (c + 6) ((G 12) (c + 6) + x4_38)) (c - 1) ((upd (G 12) (c + 6) ((G 12) (c + 6) + x4_38)) (c - 1) + x4_38))) hR (c + 1) (by omega) x3_21 x4_38) (cwV 3 hts gX2_addNeedleToNeighbours_X2_addToField rfl rfl rfl (by decide +kernel) ⟨Nat.le_of_ble_eq_true rfl, Nat.le_of_ble_eq_true rfl⟩) hl.1 rfl (Nat.le_of_ble_eq_true rfl) dX2_addNeedleToNeighbours_100 (fun s_33 H locs hq hP hD hS => ?_)
          obtain ⟨hR, hf_32⟩ := hq
          have hf := hf.tr hf_32
          have hR : isR E ad s_33 b sG (gu (gu G 11 (upd (upd (upd (G 11) (c + 6) ((G 11) (c + 6) + x3_21)) (c - 1) ((upd (G 11) (c + 6) ((G 11) (c + 6) + x3_21)) (c - 1) + x3_21)) (c + 1) ((upd (upd (G 11) (c + 6) ((G 11) (c + 6) + x3_21)) (c - 1) ((upd (G 11) (c + 6) ((G 11) (c + 6) + x3_21)) (c - 1) + x3_21)) (c + 1) + x3_21))) 12 (upd (upd (upd (G 12) (c + 6) ((G 12) (c + 6) + x4_38)) (c - 1) ((upd (G 12) (c + 6) ((G 12) (c + 6) + x4_38)) (c - 1) + x4_38)) (c + 1) ((upd (upd (G 12) (c + 6) ((G 12) (c + 6) + x4_38)) (c - 1) ((upd (G 12) (c + 6) ((G 12) (c + 6) + x4_38)) (c - 1) + x4_38)) (c + 1) + x4_38))) := hR.eq (all13 rfl rfl rfl rfl rfl rfl rfl rfl rfl rfl rfl rfl rfl)
          have hR : isR E ad s_33 b sG (gu (gu G 11 (addN (G 11) c (G 5 2 * acr (G 0 c)))) 12 (addN (G 12) c (G 5 2 * dwn (G 0 c)))) := by subst ex3_21 ex4_38; exact hR.eq (fun k9 _ => by simp only [addN, q1, q2, q3, q4, if_true, if_false, gu] <;> (repeat' split) <;> first | rfl | omega)
          exact hret _ _ _ _ _ hP hD hS (⟨hR, hf⟩) dX2_addNeedleToNeighbours_103
  · have q1 : 6 ≤ c := by have := mt (nI_ltL (n := 6) (i := c) rfl (by decide) (by omega)).mpr c43_4; omega
    refine lv_aload_n hx hb dX2_addNeedleToNeighbours_46 rfl (lv_at hl 3 rfl) ?_
    refine lv_iload_n hx hb dX2_addNeedleToNeighbours_47 rfl (lv_at hl 4 rfl) ?_
    refine lv_bipush (v := 6) hx hb dX2_addNeedleToNeighbours_48 (by decide) ?_
    refine lv_isub hx hb dX2_addNeedleToNeighbours_50 ?_
    rw [nI_subL (c := c) (N := 6) (n := 6) rfl (by omega)]
    refine lv_iload_n hx hb dX2_addNeedleToNeighbours_51 rfl (lv_at hl 1 rfl) ?_
    refine lv_iload hx hb dX2_addNeedleToNeighbours_52 (lv_at hl 0 rfl) ?_
    refine nVv (As := [.int (nI (c - 6)), .int x3_21, .int x4_38]) (rest := _) hx hb hml hown hts hP hK hD hZ hA hS ⟨Nat.zero_le _, Nat.zero_le _⟩ hR.1 rfl (c_addToField l E ad st b G hR (c - 6) (by omega) x3_21 x4_38) (cwV 3 hts gX2_addNeedleToNeighbours_X2_addToField rfl rfl rfl (by decide +kernel) ⟨Nat.le_of_ble_eq_true rfl, Nat.le_of_ble_eq_true rfl⟩) hl.1 rfl (Nat.le_of_ble_eq_true rfl) dX2_addNeedleToNeighbours_54 (fun s_36 H locs hq hP hD hS => ?_)
    obtain ⟨hR, hf_35⟩ := hq
    have hf := hf.tr hf_35
    refine lv_iload_n hx hb dX2_addNeedleToNeighbours_57 rfl (lv_at hl 4 rfl) ?_
    refine lv_bipush (v := 30) hx hb dX2_addNeedleToNeighbours_58 (by decide) ?_
    refine lv_icmp_ge (tgt := 74) hx hb dX2_addNeedleToNeighbours_60 (by decide) (fun c60_36 => ?_) (fun c60_36 => ?_)
    · have q2 : ¬ c < 30 := by have := (nI_geL (n := 30) (i := c) rfl (by decide) (by omega)).mp c60_36; omega
      refine lv_iload_n hx hb dX2_addNeedleToNeighbours_74 rfl (lv_at hl 2 rfl) ?_
      refine lv_if_le (tgt := 88) hx hb dX2_addNeedleToNeighbours_75 (by decide) (fun c75_37 => ?_) (fun c75_37 => ?_)
      · have q3 : ¬ 0 < c % 6 := by have := (nI_leL (n := 0) (i := c % 6) rfl (by decide) (by omega)).mp c75_37; omega
        refine lv_iload_n hx hb dX2_addNeedleToNeighbours_88 rfl (lv_at hl 2 rfl) ?_
        refine lv_iconst (v := 5) hx hb dX2_addNeedleToNeighbours_89 (by decide) ?_
        refine lv_icmp_ge (tgt := 103) hx hb dX2_addNeedleToNeighbours_90 (by decide) (fun c90_38 => ?_) (fun c90_38 => ?_)
        · have q4 : ¬ c % 6 < 5 := by have := (nI_geL (n := 5) (i := c % 6) rfl (by decide) (by omega)).mp c90_38; omega
          have hR : isR E ad s_36 b sG (gu (gu G 11 (addN (G 11) c (G 5 2 * acr (G 0 c)))) 12 (addN (G 12) c (G 5 2 * dwn (G 0 c)))) := by subst ex3_21 ex4_38; exact hR.eq (fun k9 _ => by simp only [addN, q1, q2, q3, q4, if_true, if_false, gu] <;> (repeat' split) <;> first | rfl | omega)
          exact hret _ _ _ _ _ hP hD hS (⟨hR, hf⟩) dX2_addNeedleToNeighbours_103
        · have q4 : c % 6 < 5 := by have := mt (nI_geL (n := 5) (i := c % 6) rfl (by decide) (by omega)).mpr c90_38; omega
          refine lv_aload_n hx hb dX2_addNeedleToNeighbours_93 rfl (lv_at hl 3 rfl) ?_
          refine lv_iload_n hx hb dX2_addNeedleToNeighbours_94 rfl (lv_at hl 4 rfl) ?_
          refine lv_iconst (v := 1) hx hb dX2_addNeedleToNeighbours_95 (by decide) ?_
          refine lv_iadd hx hb dX2_addNeedleToNeighbours_96 ?_
          rw [nI_1]
          refine lv_iload_n hx hb dX2_addNeedleToNeighbours_97 rfl (lv_at hl 1 rfl) ?_
          refine lv_iload hx hb dX2_addNeedleToNeighbours_98 (lv_at hl 0 rfl) ?_
          refine nVv (As := [.int (nI (c + 1)), .int x3_21, .int x4_38]) (rest := _) hx hb hml hown hts hP hK hD hZ hA hS ⟨Nat.zero_le _, Nat.zero_le _⟩ hR.1 rfl (c_addToField l E ad s_36 b (gu (gu G 11 (upd (G 11) (c - 6) ((G 11) (c - 6) + x3_21))) 12 (upd (G 12) (c - 6) ((G 12) (c - 6) + x4_38))) hR (c + 1) (by omega) x3_21 x4_38) (cwV 3 hts gX2_addNeedleToNeighbours_X2_addToField rfl rfl rfl (by decide +kernel) ⟨Nat.le_of_ble_eq_true rfl, Nat.le_of_ble_eq_true rfl⟩) hl.1 rfl (Nat.le_of_ble_eq_true rfl) dX2_addNeedleToNeighbours_100 (fun s_42 H locs hq hP hD hS => ?_)
          obtain ⟨hR, hf_41⟩ := hq
          have hf := hf.tr hf_41
          have hR : isR E ad s_42 b sG (gu (gu G 11 (upd (upd (G 11) (c - 6) ((G 11) (c - 6) + x3_21)) (c + 1) ((upd (G 11) (c - 6) ((G 11) (c - 6) + x3_21)) (c + 1) + x3_21))) 12 (upd (upd (G 12) (c - 6) ((G 12) (c - 6) + x4_38)) (c + 1) ((upd (G 12) (c - 6) ((G 12) (c - 6) + x4_38)) (c + 1) + x4_38))) := hR.eq (all13 rfl rfl rfl rfl rfl rfl rfl rfl rfl rfl rfl rfl rfl)
          have hR : isR E ad s_42 b sG (gu (gu G 11 (addN (G 11) c (G 5 2 * acr (G 0 c)))) 12 (addN (G 12) c (G 5 2 * dwn (G 0 c)))) := by subst ex3_21 ex4_38; exact hR.eq (fun k9 _ => by simp only [addN, q1, q2, q3, q4, if_true, if_false, gu] <;> (repeat' split) <;> first | rfl | omega)
          exact hret _ _ _ _ _ hP hD hS (⟨hR, hf⟩) dX2_addNeedleToNeighbours_103
      · have q3 : 0 < c % 6 := by have := mt (nI_leL (n := 0) (i := c % 6) rfl (by decide) (by omega)).mpr c75_37; omega
        refine lv_aload_n hx hb dX2_addNeedleToNeighbours_78 rfl (lv_at hl 3 rfl) ?_
        refine lv_iload_n hx hb dX2_addNeedleToNeighbours_79 rfl (lv_at hl 4 rfl) ?_
        refine lv_iconst (v := 1) hx hb dX2_addNeedleToNeighbours_80 (by decide) ?_
        refine lv_isub hx hb dX2_addNeedleToNeighbours_81 ?_
        rw [nI_subL (c := c) (N := 1) (n := 1) rfl (by omega)]
        refine lv_iload_n hx hb dX2_addNeedleToNeighbours_82 rfl (lv_at hl 1 rfl) ?_
        refine lv_iload hx hb dX2_addNeedleToNeighbours_83 (lv_at hl 0 rfl) ?_
        refine nVv (As := [.int (nI (c - 1)), .int x3_21, .int x4_38]) (rest := _) hx hb hml hown hts hP hK hD hZ hA hS ⟨Nat.zero_le _, Nat.zero_le _⟩ hR.1 rfl (c_addToField l E ad s_36 b (gu (gu G 11 (upd (G 11) (c - 6) ((G 11) (c - 6) + x3_21))) 12 (upd (G 12) (c - 6) ((G 12) (c - 6) + x4_38))) hR (c - 1) (by omega) x3_21 x4_38) (cwV 3 hts gX2_addNeedleToNeighbours_X2_addToField rfl rfl rfl (by decide +kernel) ⟨Nat.le_of_ble_eq_true rfl, Nat.le_of_ble_eq_true rfl⟩) hl.1 rfl (Nat.le_of_ble_eq_true rfl) dX2_addNeedleToNeighbours_85 (fun s_45 H locs hq hP hD hS => ?_)
        obtain ⟨hR, hf_44⟩ := hq
        have hf := hf.tr hf_44
        have hR : isR E ad s_45 b sG (gu (gu G 11 (upd (upd (G 11) (c - 6) ((G 11) (c - 6) + x3_21)) (c - 1) ((upd (G 11) (c - 6) ((G 11) (c - 6) + x3_21)) (c - 1) + x3_21))) 12 (upd (upd (G 12) (c - 6) ((G 12) (c - 6) + x4_38)) (c - 1) ((upd (G 12) (c - 6) ((G 12) (c - 6) + x4_38)) (c - 1) + x4_38))) := hR.eq (all13 rfl rfl rfl rfl rfl rfl rfl rfl rfl rfl rfl rfl rfl)
        refine lv_iload_n hx hb dX2_addNeedleToNeighbours_88 rfl (lv_at hl 2 rfl) ?_
        refine lv_iconst (v := 5) hx hb dX2_addNeedleToNeighbours_89 (by decide) ?_
        refine lv_icmp_ge (tgt := 103) hx hb dX2_addNeedleToNeighbours_90 (by decide) (fun c90_45 => ?_) (fun c90_45 => ?_)
        · have q4 : ¬ c % 6 < 5 := by have := (nI_geL (n := 5) (i := c % 6) rfl (by decide) (by omega)).mp c90_45; omega
          have hR : isR E ad s_45 b sG (gu (gu G 11 (addN (G 11) c (G 5 2 * acr (G 0 c)))) 12 (addN (G 12) c (G 5 2 * dwn (G 0 c)))) := by subst ex3_21 ex4_38; exact hR.eq (fun k9 _ => by simp only [addN, q1, q2, q3, q4, if_true, if_false, gu] <;> (repeat' split) <;> first | rfl | omega)
          exact hret _ _ _ _ _ hP hD hS (⟨hR, hf⟩) dX2_addNeedleToNeighbours_103
        · have q4 : c % 6 < 5 := by have := mt (nI_geL (n := 5) (i := c % 6) rfl (by decide) (by omega)).mpr c90_45; omega
          refine lv_aload_n hx hb dX2_addNeedleToNeighbours_93 rfl (lv_at hl 3 rfl) ?_
          refine lv_iload_n hx hb dX2_addNeedleToNeighbours_94 rfl (lv_at hl 4 rfl) ?_
          refine lv_iconst (v := 1) hx hb dX2_addNeedleToNeighbours_95 (by decide) ?_
          refine lv_iadd hx hb dX2_addNeedleToNeighbours_96 ?_
          rw [nI_1]
          refine lv_iload_n hx hb dX2_addNeedleToNeighbours_97 rfl (lv_at hl 1 rfl) ?_
          refine lv_iload hx hb dX2_addNeedleToNeighbours_98 (lv_at hl 0 rfl) ?_
          refine nVv (As := [.int (nI (c + 1)), .int x3_21, .int x4_38]) (rest := _) hx hb hml hown hts hP hK hD hZ hA hS ⟨Nat.zero_le _, Nat.zero_le _⟩ hR.1 rfl (c_addToField l E ad s_45 b (gu (gu G 11 (upd (upd (G 11) (c - 6) ((G 11) (c - 6) + x3_21)) (c - 1) ((upd (G 11) (c - 6) ((G 11) (c - 6) + x3_21)) (c - 1) + x3_21))) 12 (upd (upd (G 12) (c - 6) ((G 12) (c - 6) + x4_38)) (c - 1) ((upd (G 12) (c - 6) ((G 12) (c - 6) + x4_38)) (c - 1) + x4_38))) hR (c + 1) (by omega) x3_21 x4_38) (cwV 3 hts gX2_addNeedleToNeighbours_X2_addToField rfl rfl rfl (by decide +kernel) ⟨Nat.le_of_ble_eq_true rfl, Nat.le_of_ble_eq_true rfl⟩) hl.1 rfl (Nat.le_of_ble_eq_true rfl) dX2_addNeedleToNeighbours_100 (fun s_49 H locs hq hP hD hS => ?_)
          obtain ⟨hR, hf_48⟩ := hq
          have hf := hf.tr hf_48
          have hR : isR E ad s_49 b sG (gu (gu G 11 (upd (upd (upd (G 11) (c - 6) ((G 11) (c - 6) + x3_21)) (c - 1) ((upd (G 11) (c - 6) ((G 11) (c - 6) + x3_21)) (c - 1) + x3_21)) (c + 1) ((upd (upd (G 11) (c - 6) ((G 11) (c - 6) + x3_21)) (c - 1) ((upd (G 11) (c - 6) ((G 11) (c - 6) + x3_21)) (c - 1) + x3_21)) (c + 1) + x3_21))) 12 (upd (upd (upd (G 12) (c - 6) ((G 12) (c - 6) + x4_38)) (c - 1) ((upd (G 12) (c - 6) ((G 12) (c - 6) + x4_38)) (c - 1) + x4_38)) (c + 1) ((upd (upd (G 12) (c - 6) ((G 12) (c - 6) + x4_38)) (c - 1) ((upd (G 12) (c - 6) ((G 12) (c - 6) + x4_38)) (c - 1) + x4_38)) (c + 1) + x4_38))) := hR.eq (all13 rfl rfl rfl rfl rfl rfl rfl rfl rfl rfl rfl rfl rfl)
          have hR : isR E ad s_49 b sG (gu (gu G 11 (addN (G 11) c (G 5 2 * acr (G 0 c)))) 12 (addN (G 12) c (G 5 2 * dwn (G 0 c)))) := by subst ex3_21 ex4_38; exact hR.eq (fun k9 _ => by simp only [addN, q1, q2, q3, q4, if_true, if_false, gu] <;> (repeat' split) <;> first | rfl | omega)
          exact hret _ _ _ _ _ hP hD hS (⟨hR, hf⟩) dX2_addNeedleToNeighbours_103
    · have q2 : c < 30 := by have := mt (nI_geL (n := 30) (i := c) rfl (by decide) (by omega)).mpr c60_36; omega
      refine lv_aload_n hx hb dX2_addNeedleToNeighbours_63 rfl (lv_at hl 3 rfl) ?_
      refine lv_iload_n hx hb dX2_addNeedleToNeighbours_64 rfl (lv_at hl 4 rfl) ?_
      refine lv_bipush (v := 6) hx hb dX2_addNeedleToNeighbours_65 (by decide) ?_
      refine lv_iadd hx hb dX2_addNeedleToNeighbours_67 ?_
      rw [show nI c + 6 = nI (c + 6) from nI_add c 6]
      refine lv_iload_n hx hb dX2_addNeedleToNeighbours_68 rfl (lv_at hl 1 rfl) ?_
      refine lv_iload hx hb dX2_addNeedleToNeighbours_69 (lv_at hl 0 rfl) ?_
      refine nVv (As := [.int (nI (c + 6)), .int x3_21, .int x4_38]) (rest := _) hx hb hml hown hts hP hK hD hZ hA hS ⟨Nat.zero_le _, Nat.zero_le _⟩ hR.1 rfl (c_addToField l E ad s_36 b (gu (gu G 11 (upd (G 11) (c - 6) ((G 11) (c - 6) + x3_21))) 12 (upd (G 12) (c - 6) ((G 12) (c - 6) + x4_38))) hR (c + 6) (by omega) x3_21 x4_38) (cwV 3 hts gX2_addNeedleToNeighbours_X2_addToField rfl rfl rfl (by decide +kernel) ⟨Nat.le_of_ble_eq_true rfl, Nat.le_of_ble_eq_true rfl⟩) hl.1 rfl (Nat.le_of_ble_eq_true rfl) dX2_addNeedleToNeighbours_71 (fun s_52 H locs hq hP hD hS => ?_)
      obtain ⟨hR, hf_51⟩ := hq
      have hf := hf.tr hf_51
      have hR : isR E ad s_52 b sG (gu (gu G 11 (upd (upd (G 11) (c - 6) ((G 11) (c - 6) + x3_21)) (c + 6) ((upd (G 11) (c - 6) ((G 11) (c - 6) + x3_21)) (c + 6) + x3_21))) 12 (upd (upd (G 12) (c - 6) ((G 12) (c - 6) + x4_38)) (c + 6) ((upd (G 12) (c - 6) ((G 12) (c - 6) + x4_38)) (c + 6) + x4_38))) := hR.eq (all13 rfl rfl rfl rfl rfl rfl rfl rfl rfl rfl rfl rfl rfl)
      refine lv_iload_n hx hb dX2_addNeedleToNeighbours_74 rfl (lv_at hl 2 rfl) ?_
      refine lv_if_le (tgt := 88) hx hb dX2_addNeedleToNeighbours_75 (by decide) (fun c75_52 => ?_) (fun c75_52 => ?_)
      · have q3 : ¬ 0 < c % 6 := by have := (nI_leL (n := 0) (i := c % 6) rfl (by decide) (by omega)).mp c75_52; omega
        refine lv_iload_n hx hb dX2_addNeedleToNeighbours_88 rfl (lv_at hl 2 rfl) ?_
        refine lv_iconst (v := 5) hx hb dX2_addNeedleToNeighbours_89 (by decide) ?_
        refine lv_icmp_ge (tgt := 103) hx hb dX2_addNeedleToNeighbours_90 (by decide) (fun c90_53 => ?_) (fun c90_53 => ?_)
        · have q4 : ¬ c % 6 < 5 := by have := (nI_geL (n := 5) (i := c % 6) rfl (by decide) (by omega)).mp c90_53; omega
          have hR : isR E ad s_52 b sG (gu (gu G 11 (addN (G 11) c (G 5 2 * acr (G 0 c)))) 12 (addN (G 12) c (G 5 2 * dwn (G 0 c)))) := by subst ex3_21 ex4_38; exact hR.eq (fun k9 _ => by simp only [addN, q1, q2, q3, q4, if_true, if_false, gu] <;> (repeat' split) <;> first | rfl | omega)
          exact hret _ _ _ _ _ hP hD hS (⟨hR, hf⟩) dX2_addNeedleToNeighbours_103
        · have q4 : c % 6 < 5 := by have := mt (nI_geL (n := 5) (i := c % 6) rfl (by decide) (by omega)).mpr c90_53; omega
          refine lv_aload_n hx hb dX2_addNeedleToNeighbours_93 rfl (lv_at hl 3 rfl) ?_
          refine lv_iload_n hx hb dX2_addNeedleToNeighbours_94 rfl (lv_at hl 4 rfl) ?_
          refine lv_iconst (v := 1) hx hb dX2_addNeedleToNeighbours_95 (by decide) ?_
          refine lv_iadd hx hb dX2_addNeedleToNeighbours_96 ?_
          rw [nI_1]
          refine lv_iload_n hx hb dX2_addNeedleToNeighbours_97 rfl (lv_at hl 1 rfl) ?_
          refine lv_iload hx hb dX2_addNeedleToNeighbours_98 (lv_at hl 0 rfl) ?_
          refine nVv (As := [.int (nI (c + 1)), .int x3_21, .int x4_38]) (rest := _) hx hb hml hown hts hP hK hD hZ hA hS ⟨Nat.zero_le _, Nat.zero_le _⟩ hR.1 rfl (c_addToField l E ad s_52 b (gu (gu G 11 (upd (upd (G 11) (c - 6) ((G 11) (c - 6) + x3_21)) (c + 6) ((upd (G 11) (c - 6) ((G 11) (c - 6) + x3_21)) (c + 6) + x3_21))) 12 (upd (upd (G 12) (c - 6) ((G 12) (c - 6) + x4_38)) (c + 6) ((upd (G 12) (c - 6) ((G 12) (c - 6) + x4_38)) (c + 6) + x4_38))) hR (c + 1) (by omega) x3_21 x4_38) (cwV 3 hts gX2_addNeedleToNeighbours_X2_addToField rfl rfl rfl (by decide +kernel) ⟨Nat.le_of_ble_eq_true rfl, Nat.le_of_ble_eq_true rfl⟩) hl.1 rfl (Nat.le_of_ble_eq_true rfl) dX2_addNeedleToNeighbours_100 (fun s_57 H locs hq hP hD hS => ?_)
          obtain ⟨hR, hf_56⟩ := hq
          have hf := hf.tr hf_56
          have hR : isR E ad s_57 b sG (gu (gu G 11 (upd (upd (upd (G 11) (c - 6) ((G 11) (c - 6) + x3_21)) (c + 6) ((upd (G 11) (c - 6) ((G 11) (c - 6) + x3_21)) (c + 6) + x3_21)) (c + 1) ((upd (upd (G 11) (c - 6) ((G 11) (c - 6) + x3_21)) (c + 6) ((upd (G 11) (c - 6) ((G 11) (c - 6) + x3_21)) (c + 6) + x3_21)) (c + 1) + x3_21))) 12 (upd (upd (upd (G 12) (c - 6) ((G 12) (c - 6) + x4_38)) (c + 6) ((upd (G 12) (c - 6) ((G 12) (c - 6) + x4_38)) (c + 6) + x4_38)) (c + 1) ((upd (upd (G 12) (c - 6) ((G 12) (c - 6) + x4_38)) (c + 6) ((upd (G 12) (c - 6) ((G 12) (c - 6) + x4_38)) (c + 6) + x4_38)) (c + 1) + x4_38))) := hR.eq (all13 rfl rfl rfl rfl rfl rfl rfl rfl rfl rfl rfl rfl rfl)
          have hR : isR E ad s_57 b sG (gu (gu G 11 (addN (G 11) c (G 5 2 * acr (G 0 c)))) 12 (addN (G 12) c (G 5 2 * dwn (G 0 c)))) := by subst ex3_21 ex4_38; exact hR.eq (fun k9 _ => by simp only [addN, q1, q2, q3, q4, if_true, if_false, gu] <;> (repeat' split) <;> first | rfl | omega)
          exact hret _ _ _ _ _ hP hD hS (⟨hR, hf⟩) dX2_addNeedleToNeighbours_103
      · have q3 : 0 < c % 6 := by have := mt (nI_leL (n := 0) (i := c % 6) rfl (by decide) (by omega)).mpr c75_52; omega
        refine lv_aload_n hx hb dX2_addNeedleToNeighbours_78 rfl (lv_at hl 3 rfl) ?_
        refine lv_iload_n hx hb dX2_addNeedleToNeighbours_79 rfl (lv_at hl 4 rfl) ?_
        refine lv_iconst (v := 1) hx hb dX2_addNeedleToNeighbours_80 (by decide) ?_
        refine lv_isub hx hb dX2_addNeedleToNeighbours_81 ?_
        rw [nI_subL (c := c) (N := 1) (n := 1) rfl (by omega)]
        refine lv_iload_n hx hb dX2_addNeedleToNeighbours_82 rfl (lv_at hl 1 rfl) ?_
        refine lv_iload hx hb dX2_addNeedleToNeighbours_83 (lv_at hl 0 rfl) ?_
        refine nVv (As := [.int (nI (c - 1)), .int x3_21, .int x4_38]) (rest := _) hx hb hml hown hts hP hK hD hZ hA hS ⟨Nat.zero_le _, Nat.zero_le _⟩ hR.1 rfl (c_addToField l E ad s_52 b (gu (gu G 11 (upd (upd (G 11) (c - 6) ((G 11) (c - 6) + x3_21)) (c + 6) ((upd (G 11) (c - 6) ((G 11) (c - 6) + x3_21)) (c + 6) + x3_21))) 12 (upd (upd (G 12) (c - 6) ((G 12) (c - 6) + x4_38)) (c + 6) ((upd (G 12) (c - 6) ((G 12) (c - 6) + x4_38)) (c + 6) + x4_38))) hR (c - 1) (by omega) x3_21 x4_38) (cwV 3 hts gX2_addNeedleToNeighbours_X2_addToField rfl rfl rfl (by decide +kernel) ⟨Nat.le_of_ble_eq_true rfl, Nat.le_of_ble_eq_true rfl⟩) hl.1 rfl (Nat.le_of_ble_eq_true rfl) dX2_addNeedleToNeighbours_85 (fun s_60 H locs hq hP hD hS => ?_)
        obtain ⟨hR, hf_59⟩ := hq
        have hf := hf.tr hf_59
        have hR : isR E ad s_60 b sG (gu (gu G 11 (upd (upd (upd (G 11) (c - 6) ((G 11) (c - 6) + x3_21)) (c + 6) ((upd (G 11) (c - 6) ((G 11) (c - 6) + x3_21)) (c + 6) + x3_21)) (c - 1) ((upd (upd (G 11) (c - 6) ((G 11) (c - 6) + x3_21)) (c + 6) ((upd (G 11) (c - 6) ((G 11) (c - 6) + x3_21)) (c + 6) + x3_21)) (c - 1) + x3_21))) 12 (upd (upd (upd (G 12) (c - 6) ((G 12) (c - 6) + x4_38)) (c + 6) ((upd (G 12) (c - 6) ((G 12) (c - 6) + x4_38)) (c + 6) + x4_38)) (c - 1) ((upd (upd (G 12) (c - 6) ((G 12) (c - 6) + x4_38)) (c + 6) ((upd (G 12) (c - 6) ((G 12) (c - 6) + x4_38)) (c + 6) + x4_38)) (c - 1) + x4_38))) := hR.eq (all13 rfl rfl rfl rfl rfl rfl rfl rfl rfl rfl rfl rfl rfl)
        refine lv_iload_n hx hb dX2_addNeedleToNeighbours_88 rfl (lv_at hl 2 rfl) ?_
        refine lv_iconst (v := 5) hx hb dX2_addNeedleToNeighbours_89 (by decide) ?_
        refine lv_icmp_ge (tgt := 103) hx hb dX2_addNeedleToNeighbours_90 (by decide) (fun c90_60 => ?_) (fun c90_60 => ?_)
        · have q4 : ¬ c % 6 < 5 := by have := (nI_geL (n := 5) (i := c % 6) rfl (by decide) (by omega)).mp c90_60; omega
          have hR : isR E ad s_60 b sG (gu (gu G 11 (addN (G 11) c (G 5 2 * acr (G 0 c)))) 12 (addN (G 12) c (G 5 2 * dwn (G 0 c)))) := by subst ex3_21 ex4_38; exact hR.eq (fun k9 _ => by simp only [addN, q1, q2, q3, q4, if_true, if_false, gu] <;> (repeat' split) <;> first | rfl | omega)
          exact hret _ _ _ _ _ hP hD hS (⟨hR, hf⟩) dX2_addNeedleToNeighbours_103
        · have q4 : c % 6 < 5 := by have := mt (nI_geL (n := 5) (i := c % 6) rfl (by decide) (by omega)).mpr c90_60; omega
          refine lv_aload_n hx hb dX2_addNeedleToNeighbours_93 rfl (lv_at hl 3 rfl) ?_
          refine lv_iload_n hx hb dX2_addNeedleToNeighbours_94 rfl (lv_at hl 4 rfl) ?_
          refine lv_iconst (v := 1) hx hb dX2_addNeedleToNeighbours_95 (by decide) ?_
          refine lv_iadd hx hb dX2_addNeedleToNeighbours_96 ?_
          rw [nI_1]
          refine lv_iload_n hx hb dX2_addNeedleToNeighbours_97 rfl (lv_at hl 1 rfl) ?_
          refine lv_iload hx hb dX2_addNeedleToNeighbours_98 (lv_at hl 0 rfl) ?_
          refine nVv (As := [.int (nI (c + 1)), .int x3_21, .int x4_38]) (rest := _) hx hb hml hown hts hP hK hD hZ hA hS ⟨Nat.zero_le _, Nat.zero_le _⟩ hR.1 rfl (c_addToField l E ad s_60 b (gu (gu G 11 (upd (upd (upd (G 11) (c - 6) ((G 11) (c - 6) + x3_21)) (c + 6) ((upd (G 11) (c - 6) ((G 11) (c - 6) + x3_21)) (c + 6) + x3_21)) (c - 1) ((upd (upd (G 11) (c - 6) ((G 11) (c - 6) + x3_21)) (c + 6) ((upd (G 11) (c - 6) ((G 11) (c - 6) + x3_21)) (c + 6) + x3_21)) (c - 1) + x3_21))) 12 (upd (upd (upd (G 12) (c - 6) ((G 12) (c - 6) + x4_38)) (c + 6) ((upd (G 12) (c - 6) ((G 12) (c - 6) + x4_38)) (c + 6) + x4_38)) (c - 1) ((upd (upd (G 12) (c - 6) ((G 12) (c - 6) + x4_38)) (c + 6) ((upd (G 12) (c - 6) ((G 12) (c - 6) + x4_38)) (c + 6) + x4_38)) (c - 1) + x4_38))) hR (c + 1) (by omega) x3_21 x4_38) (cwV 3 hts gX2_addNeedleToNeighbours_X2_addToField rfl rfl rfl (by decide +kernel) ⟨Nat.le_of_ble_eq_true rfl, Nat.le_of_ble_eq_true rfl⟩) hl.1 rfl (Nat.le_of_ble_eq_true rfl) dX2_addNeedleToNeighbours_100 (fun s_64 H locs hq hP hD hS => ?_)
          obtain ⟨hR, hf_63⟩ := hq
          have hf := hf.tr hf_63
          have hR : isR E ad s_64 b sG (gu (gu G 11 (upd (upd (upd (upd (G 11) (c - 6) ((G 11) (c - 6) + x3_21)) (c + 6) ((upd (G 11) (c - 6) ((G 11) (c - 6) + x3_21)) (c + 6) + x3_21)) (c - 1) ((upd (upd (G 11) (c - 6) ((G 11) (c - 6) + x3_21)) (c + 6) ((upd (G 11) (c - 6) ((G 11) (c - 6) + x3_21)) (c + 6) + x3_21)) (c - 1) + x3_21)) (c + 1) ((upd (upd (upd (G 11) (c - 6) ((G 11) (c - 6) + x3_21)) (c + 6) ((upd (G 11) (c - 6) ((G 11) (c - 6) + x3_21)) (c + 6) + x3_21)) (c - 1) ((upd (upd (G 11) (c - 6) ((G 11) (c - 6) + x3_21)) (c + 6) ((upd (G 11) (c - 6) ((G 11) (c - 6) + x3_21)) (c + 6) + x3_21)) (c - 1) + x3_21)) (c + 1) + x3_21))) 12 (upd (upd (upd (upd (G 12) (c - 6) ((G 12) (c - 6) + x4_38)) (c + 6) ((upd (G 12) (c - 6) ((G 12) (c - 6) + x4_38)) (c + 6) + x4_38)) (c - 1) ((upd (upd (G 12) (c - 6) ((G 12) (c - 6) + x4_38)) (c + 6) ((upd (G 12) (c - 6) ((G 12) (c - 6) + x4_38)) (c + 6) + x4_38)) (c - 1) + x4_38)) (c + 1) ((upd (upd (upd (G 12) (c - 6) ((G 12) (c - 6) + x4_38)) (c + 6) ((upd (G 12) (c - 6) ((G 12) (c - 6) + x4_38)) (c + 6) + x4_38)) (c - 1) ((upd (upd (G 12) (c - 6) ((G 12) (c - 6) + x4_38)) (c + 6) ((upd (G 12) (c - 6) ((G 12) (c - 6) + x4_38)) (c + 6) + x4_38)) (c - 1) + x4_38)) (c + 1) + x4_38))) := hR.eq (all13 rfl rfl rfl rfl rfl rfl rfl rfl rfl rfl rfl rfl rfl)
          have hR : isR E ad s_64 b sG (gu (gu G 11 (addN (G 11) c (G 5 2 * acr (G 0 c)))) 12 (addN (G 12) c (G 5 2 * dwn (G 0 c)))) := by subst ex3_21 ex4_38; exact hR.eq (fun k9 _ => by simp only [addN, q1, q2, q3, q4, if_true, if_false, gu] <;> (repeat' split) <;> first | rfl | omega)
          exact hret _ _ _ _ _ hP hD hS (⟨hR, hf⟩) dX2_addNeedleToNeighbours_103

set_option maxHeartbeats 4000000 in
set_option maxRecDepth 100000 in
theorem c_measureField (l : Launch) (E : NE) (ad : Nat → Nat) (st : NW) (b : Nat) (G : Nat → Nat → Int32) (hR : isR E ad st b sG G) : nMv l yX2_measureField wsX2_measureField (nRm 2 47) E ad st [.ref (ad b)] (fun s1 => isR E ad s1 b sG (mfG G) ∧ fr b st s1) := by
  refine nSv (cc := cX2_measureField) (maxL := 2) (by decide) rfl (Nat.le_of_ble_eq_true rfl) ?_
  intro pg en s mi ar bw mth cd R Q A ls hx hb hml hown hts hRm hP hK hD hZ hA hl hret
  subst hRm
  have hown : s.vm.findClass RX2 = some mi.cls := hown
  have hS : va_S A s.heap s.heap [] := va_S.rf
  have hl : lv_has ls 2 [(0, .ref (ad b))] := hl
  have hf : fr b st st := fr.rf
  have hinX2 : ∀ w ∈ wsX20, w ∈ wsX2_measureField := by decide +kernel
  refine lv_iconst (v := 0) hx hb dX2_measureField_0 (by decide) ?_
  refine lv_istore_n (lv' := [(1, .int 0), (0, .ref (ad b))]) hx hb dX2_measureField_1 rfl hl (by decide) rfl (fun ls hl => ?_)
  have LP_1 : ∀ (k9 i : Nat), i ≤ 36 → 36 - i < k9 → ∀ (sL_2 : NW) (H : Heap) (locs : List Loc) (ls : Array Slot), isR E ad sL_2 b sG (gu (gu G 11 (fil (G 9) (G 11) i)) 12 (fil (G 10) (G 12) i)) → fr b st sL_2 → nP E ad sL_2 H → nD A ad sL_2 → va_S A s.heap H locs → lv_has ls 2 [(1, .int (nI i)), (0, .ref (ad b))] → W pg l en (nRm 2 47) s mi ar bw mth cd H locs 0 0 Q (F0 mi 2 ls []) := by
    intro k9
    induction k9 with
    | zero => intro i _ h9; exact absurd h9 (Nat.not_lt_zero _)
    | succ k9 ih2 =>
      intro i hi hk9 sL_2 H locs ls hR hf hP hD hS hl
      refine lv_iload_n hx hb dX2_measureField_2 rfl (lv_at hl 0 rfl) ?_
      refine lv_bipush (v := 36) hx hb dX2_measureField_3 (by decide) ?_
      refine lv_icmp_ge (tgt := 38) hx hb dX2_measureField_5 (by decide) (fun c5_2 => ?_) (fun c5_2 => ?_)
      · have h36 : 36 ≤ i := (nI_geL (n := 36) rfl (by decide) (by omega)).mp c5_2
        obtain rfl : i = 36 := by omega
        refine lv_iconst (v := 0) hx hb dX2_measureField_38 (by decide) ?_
        refine lv_istore_n (lv' := [(1, .int 0), (0, .ref (ad b))]) hx hb dX2_measureField_39 rfl hl (by decide) rfl (fun ls hl => ?_)
        obtain ⟨s_4, hR, hf_5, hP, hD⟩ := hR.can hP hD 11 (n := 36) (z := 0) rfl (by decide) (by decide) (g := G 9) (fun j9 h9 => (show fil (G 9) (G 11) 36 j9 = G 9 j9 from fil_in h9))
        have hf := hf.tr hf_5
        have hR : isR E ad s_4 b sG (gu (gu G 12 (fil (G 10) (G 12) 36)) 11 (G 9)) := hR.eq (all13 rfl rfl rfl rfl rfl rfl rfl rfl rfl rfl rfl rfl rfl)
        obtain ⟨s_6, hR, hf_7, hP, hD⟩ := hR.can hP hD 12 (n := 36) (z := 0) rfl (by decide) (by decide) (g := G 10) (fun j9 h9 => (show fil (G 10) (G 12) 36 j9 = G 10 j9 from fil_in h9))
        have hf := hf.tr hf_7
        have hR : isR E ad s_6 b sG (gu (gu G 11 (G 9)) 12 (G 10)) := hR.eq (all13 rfl rfl rfl rfl rfl rfl rfl rfl rfl rfl rfl rfl rfl)
        have LP_8 : ∀ (k9 j : Nat), j ≤ 36 → 36 - j < k9 → ∀ (sL_9 : NW) (H : Heap) (locs : List Loc) (ls : Array Slot), isR E ad sL_9 b sG (gu (gu G 11 (nxs (fun k => acr (G 0 k)) (G 5 2) (G 9) j)) 12 (nxs (fun k => dwn (G 0 k)) (G 5 2) (G 10) j)) → fr b st sL_9 → nP E ad sL_9 H → nD A ad sL_9 → va_S A s.heap H locs → lv_has ls 2 [(1, .int (nI j)), (0, .ref (ad b))] → W pg l en (nRm 2 47) s mi ar bw mth cd H locs 0 0 Q (F0 mi 40 ls []) := by
          intro k9
          induction k9 with
          | zero => intro j _ h9; exact absurd h9 (Nat.not_lt_zero _)
          | succ k9 ih40 =>
            intro j hi hk9 sL_9 H locs ls hR hf hP hD hS hl
            refine lv_iload_n hx hb dX2_measureField_40 rfl (lv_at hl 0 rfl) ?_
            refine lv_bipush (v := 36) hx hb dX2_measureField_41 (by decide) ?_
            refine lv_icmp_ge (tgt := 57) hx hb dX2_measureField_43 (by decide) (fun c43_9 => ?_) (fun c43_9 => ?_)
            · have h36 : 36 ≤ j := (nI_geL (n := 36) rfl (by decide) (by omega)).mp c43_9
              obtain rfl : j = 36 := by omega
              exact hret _ _ _ _ _ hP hD hS (⟨hR, hf⟩) dX2_measureField_57
            · have hlt : j < 36 := by have := mt (nI_geL (n := 36) (i := j) rfl (by decide) (by omega)).mpr c43_9; omega
              refine lv_aload_n hx hb dX2_measureField_46 rfl (lv_at hl 1 rfl) ?_
              refine lv_iload_n hx hb dX2_measureField_47 rfl (lv_at hl 0 rfl) ?_
              refine nVv (As := [.int (nI j)]) (rest := _) hx hb hml hown hts hP hK hD hZ hA hS ⟨Nat.zero_le _, Nat.zero_le _⟩ hR.1 rfl (c_addNeedle l E ad sL_9 b (gu (gu G 11 (nxs (fun k => acr (G 0 k)) (G 5 2) (G 9) j)) 12 (nxs (fun k => dwn (G 0 k)) (G 5 2) (G 10) j)) hR j (by omega)) (cwV 1 hts gX2_measureField_X2_addNeedleToNeighbours rfl rfl rfl (by decide +kernel) ⟨Nat.le_of_ble_eq_true rfl, Nat.le_of_ble_eq_true rfl⟩) hl.1 rfl (Nat.le_of_ble_eq_true rfl) dX2_measureField_48 (fun s_13 H locs hq hP hD hS => ?_)
              obtain ⟨hR, hf_12⟩ := hq
              have hf := hf.tr hf_12
              have hR : isR E ad s_13 b sG (gu (gu G 11 (addN (nxs (fun k => acr (G 0 k)) (G 5 2) (G 9) j) j (G 5 2 * acr (G 0 j)))) 12 (addN (nxs (fun k => dwn (G 0 k)) (G 5 2) (G 10) j) j (G 5 2 * dwn (G 0 j)))) := hR.eq (all13 rfl rfl rfl rfl rfl rfl rfl rfl rfl rfl rfl rfl rfl)
              refine lv_iinc (v := nI (j + 1)) (lv' := [(1, .int (nI (j + 1))), (0, .ref (ad b))]) hx hb dX2_measureField_51 hl (k := 0) rfl (nI_1 _) (by decide) rfl (fun ls hl => ?_)
              refine lv_goto (tgt := 40) hx hb dX2_measureField_54 (by decide) ?_
              exact ih40 (j + 1) (by omega) (by omega) _ _ _ _ hR hf hP hD hS (lv_sub hl [0, 1] rfl)
        exact LP_8 (36 + 1) 0 (Nat.zero_le _) (by omega) _ _ _ _ hR hf hP hD hS (lv_sub hl [0, 1] rfl)
      · have hlt : i < 36 := by have := mt (nI_geL (n := 36) (i := i) rfl (by decide) (by omega)).mpr c5_2; omega
        refine lv_aload_n hx hb dX2_measureField_8 rfl (lv_at hl 1 rfl) ?_
        refine rg (v := .ref (ad (b + 1 + 11))) (T := TX2) (N := 13) (C := RX2) hx hb hts hinX2 hown hK hP hR rfl 11 (by decide) (hts (.fieldLink RX2 37 "NeedleGrid$Grid" "fieldX" "[I") (by decide +kernel)) rfl dX2_measureField_9 ?_
        refine lv_iload_n hx hb dX2_measureField_12 rfl (lv_at hl 0 rfl) ?_
        refine lv_aload_n hx hb dX2_measureField_13 rfl (lv_at hl 1 rfl) ?_
        refine rg (v := .ref (ad (b + 1 + 9))) (T := TX2) (N := 13) (C := RX2) hx hb hts hinX2 hown hK hP hR rfl 9 (by decide) (hts (.fieldLink RX2 31 "NeedleGrid$Grid" "stillX" "[I") (by decide +kernel)) rfl dX2_measureField_14 ?_
        refine lv_iload_n hx hb dX2_measureField_17 rfl (lv_at hl 0 rfl) ?_
        refine ra (j := i) (n := 36) hx hb hK hP hR 9 rfl (by omega) (by decide) dX2_measureField_18 ?_
        refine rs (j := i) (n := 36) (x := G 9 i) hx hb hK hP hD hS hR 11 rfl (by decide) (by omega) (by decide) dX2_measureField_19 (fun s_15 H locs hR hf_16 hP hD hS => ?_)
        have hf := hf.tr hf_16
        have hR : isR E ad s_15 b sG (gu (gu G 12 (fil (G 10) (G 12) i)) 11 (upd (fil (G 9) (G 11) i) i (G 9 i))) := hR.eq (all13 rfl rfl rfl rfl rfl rfl rfl rfl rfl rfl rfl rfl rfl)
        refine lv_aload_n hx hb dX2_measureField_20 rfl (lv_at hl 1 rfl) ?_
        refine rg (v := .ref (ad (b + 1 + 12))) (T := TX2) (N := 13) (C := RX2) hx hb hts hinX2 hown hK hP hR rfl 12 (by decide) (hts (.fieldLink RX2 40 "NeedleGrid$Grid" "fieldY" "[I") (by decide +kernel)) rfl dX2_measureField_21 ?_
        refine lv_iload_n hx hb dX2_measureField_24 rfl (lv_at hl 0 rfl) ?_
        refine lv_aload_n hx hb dX2_measureField_25 rfl (lv_at hl 1 rfl) ?_
        refine rg (v := .ref (ad (b + 1 + 10))) (T := TX2) (N := 13) (C := RX2) hx hb hts hinX2 hown hK hP hR rfl 10 (by decide) (hts (.fieldLink RX2 34 "NeedleGrid$Grid" "stillY" "[I") (by decide +kernel)) rfl dX2_measureField_26 ?_
        refine lv_iload_n hx hb dX2_measureField_29 rfl (lv_at hl 0 rfl) ?_
        refine ra (j := i) (n := 36) hx hb hK hP hR 10 rfl (by omega) (by decide) dX2_measureField_30 ?_
        refine rs (j := i) (n := 36) (x := G 10 i) hx hb hK hP hD hS hR 12 rfl (by decide) (by omega) (by decide) dX2_measureField_31 (fun s_17 H locs hR hf_18 hP hD hS => ?_)
        have hf := hf.tr hf_18
        have hR : isR E ad s_17 b sG (gu (gu G 11 (upd (fil (G 9) (G 11) i) i (G 9 i))) 12 (upd (fil (G 10) (G 12) i) i (G 10 i))) := hR.eq (all13 rfl rfl rfl rfl rfl rfl rfl rfl rfl rfl rfl rfl rfl)
        refine lv_iinc (v := nI (i + 1)) (lv' := [(1, .int (nI (i + 1))), (0, .ref (ad b))]) hx hb dX2_measureField_32 hl (k := 0) rfl (nI_1 _) (by decide) rfl (fun ls hl => ?_)
        refine lv_goto (tgt := 2) hx hb dX2_measureField_35 (by decide) ?_
        exact ih2 (i + 1) (by omega) (by omega) _ _ _ _ (by rw [← fil_s, ← fil_s]; exact hR) hf hP hD hS (lv_sub hl [0, 1] rfl)
  exact LP_1 (36 + 1) 0 (Nat.zero_le _) (by omega) _ _ _ _ (by rw [fil_0, fil_0, gu_id, gu_id]; exact hR) hf hP hD hS (lv_sub hl [0, 1] rfl)

set_option maxHeartbeats 4000000 in
set_option maxRecDepth 100000 in
theorem c_turnAll (l : Launch) (E : NE) (ad : Nat → Nat) (st : NW) (b : Nat) (G : Nat → Nat → Int32) (hR : isR E ad st b sG G) : nMi l yX2_turnAll wsX2_turnAll (nRm 3 68) E ad st [.ref (ad b)] (fun r s1 => r = nI (taN G 36) ∧ isR E ad s1 b sG (taG G) ∧ fr b st s1) := by
  refine nSi (cc := cX2_turnAll) (maxL := 4) (by decide) rfl (Nat.le_of_ble_eq_true rfl) ?_
  intro pg en s mi ar bw mth cd R Q A ls hx hb hml hown hts hRm hP hK hD hZ hA hl hret
  subst hRm
  have hown : s.vm.findClass RX2 = some mi.cls := hown
  have hS : va_S A s.heap s.heap [] := va_S.rf
  have hl : lv_has ls 4 [(0, .ref (ad b))] := hl
  have hf : fr b st st := fr.rf
  have hinX2 : ∀ w ∈ wsX20, w ∈ wsX2_turnAll := by decide +kernel
  refine lv_iconst (v := 0) hx hb dX2_turnAll_0 (by decide) ?_
  refine lv_istore_n (lv' := [(1, .int 0), (0, .ref (ad b))]) hx hb dX2_turnAll_1 rfl hl (by decide) rfl (fun ls hl => ?_)
  refine lv_iconst (v := 0) hx hb dX2_turnAll_2 (by decide) ?_
  refine lv_istore_n (lv' := [(2, .int 0), (1, .int 0), (0, .ref (ad b))]) hx hb dX2_turnAll_3 rfl hl (by decide) rfl (fun ls hl => ?_)
  have LP_1 : ∀ (k9 i : Nat), i ≤ 36 → 36 - i < k9 → ∀ (sL_2 : NW) (H : Heap) (locs : List Loc) (ls : Array Slot), isR E ad sL_2 b sG (gu G 0 (fil (gT G) (G 0) i)) → fr b st sL_2 → nP E ad sL_2 H → nD A ad sL_2 → va_S A s.heap H locs → lv_has ls 4 [(1, .int (nI (taN G i))), (2, .int (nI i)), (0, .ref (ad b))] → W pg l en (nRm 3 68) s mi ar bw mth cd H locs 0 0 Q (F0 mi 4 ls []) := by
    intro k9
    induction k9 with
    | zero => intro i _ h9; exact absurd h9 (Nat.not_lt_zero _)
    | succ k9 ih4 =>
      intro i hi hk9 sL_2 H locs ls hR hf hP hD hS hl
      refine lv_iload_n hx hb dX2_turnAll_4 rfl (lv_at hl 1 rfl) ?_
      refine lv_bipush (v := 36) hx hb dX2_turnAll_5 (by decide) ?_
      refine lv_icmp_ge (tgt := 42) hx hb dX2_turnAll_7 (by decide) (fun c7_2 => ?_) (fun c7_2 => ?_)
      · have h36 : 36 ≤ i := (nI_geL (n := 36) rfl (by decide) (by omega)).mp c7_2
        obtain rfl : i = 36 := by omega
        refine lv_aload_n hx hb dX2_turnAll_42 rfl (lv_at hl 2 rfl) ?_
        refine nVv (As := []) (rest := _) hx hb hml hown hts hP hK hD hZ hA hS ⟨Nat.zero_le _, Nat.zero_le _⟩ hR.1 rfl (c_measureField l E ad sL_2 b (gu G 0 (fil (gT G) (G 0) 36)) hR ) (cwV 0 hts gX2_turnAll_X2_measureField rfl rfl rfl (by decide +kernel) ⟨Nat.le_of_ble_eq_true rfl, Nat.le_of_ble_eq_true rfl⟩) hl.1 rfl (Nat.le_of_ble_eq_true rfl) dX2_turnAll_43 (fun s_6 H locs hq hP hD hS => ?_)
        obtain ⟨hR, hf_5⟩ := hq
        have hf := hf.tr hf_5
        refine lv_iload_n hx hb dX2_turnAll_46 rfl (lv_at hl 0 rfl) ?_
        exact hret _ _ _ _ _ _ hP hD hS (⟨rfl, hR, hf⟩) dX2_turnAll_47
      · have hlt : i < 36 := by have := mt (nI_geL (n := 36) (i := i) rfl (by decide) (by omega)).mpr c7_2; omega
        refine lv_aload_n hx hb dX2_turnAll_10 rfl (lv_at hl 2 rfl) ?_
        refine lv_iload_n hx hb dX2_turnAll_11 rfl (lv_at hl 1 rfl) ?_
        refine nVi (As := [.int (nI i)]) (rest := _) hx hb hml hown hts hP hK hD hZ hA hS ⟨Nat.zero_le _, Nat.zero_le _⟩ hR.1 rfl (c_directionAfterStep l E ad sL_2 b (gu G 0 (fil (gT G) (G 0) i)) hR i (by omega)) (cwV 1 hts gX2_turnAll_X2_directionAfterStep rfl rfl rfl (by decide +kernel) ⟨Nat.le_of_ble_eq_true rfl, Nat.le_of_ble_eq_true rfl⟩) hl.1 rfl (Nat.le_of_ble_eq_true rfl) dX2_turnAll_12 (fun r_7 s_8 H locs hq hP hD hS => ?_)
        obtain ⟨hrr_7, rfl⟩ := hq
        have hrr_7 : r_7 = gT G i := by rw [hrr_7]; simp [gT, gu, fil_at]
        refine lv_istore_n (lv' := [(3, .int r_7), (1, .int (nI (taN G i))), (2, .int (nI i)), (0, .ref (ad b))]) hx hb dX2_turnAll_15 rfl hl (by decide) rfl (fun ls hl => ?_)
        refine lv_iload_n hx hb dX2_turnAll_16 rfl (lv_at hl 0 rfl) ?_
        refine lv_aload_n hx hb dX2_turnAll_17 rfl (lv_at hl 3 rfl) ?_
        refine rg (v := .ref (ad (b + 1 + 0))) (T := TX2) (N := 13) (C := RX2) hx hb hts hinX2 hown hK hP hR rfl 0 (by decide) (hts (.fieldLink RX2 9 "NeedleGrid$Grid" "directions" "[I") (by decide +kernel)) rfl dX2_turnAll_18 ?_
        refine lv_iload_n hx hb dX2_turnAll_21 rfl (lv_at hl 2 rfl) ?_
        refine ra (j := i) (n := 36) hx hb hK hP hR 0 rfl (by omega) (by decide) dX2_turnAll_22 ?_
        refine lv_icmp_eq (tgt := 36) hx hb dX2_turnAll_23 (by decide) (fun c23_8 => ?_) (fun c23_8 => ?_)
        · have hTi : gT G i = G 0 i := by rw [← hrr_7, c23_8]; exact fil_at _ _ _
          have hPi : (fun k => !decide (gT G k = G 0 k)) i = false := by simp [hTi]
          refine lv_iinc (v := nI (i + 1)) (lv' := [(2, .int (nI (i + 1))), (3, .int r_7), (1, .int (nI (taN G i))), (0, .ref (ad b))]) hx hb dX2_turnAll_36 hl (k := 2) rfl (nI_1 _) (by decide) rfl (fun ls hl => ?_)
          refine lv_goto (tgt := 4) hx hb dX2_turnAll_39 (by decide) ?_
          exact ih4 (i + 1) (by omega) (by omega) _ _ _ _ (by rw [fil_eq hTi]; exact hR) hf hP hD hS (by rw [show taN G (i + 1) = taN G i from cnI_f hPi]; exact lv_sub hl [2, 0, 3] rfl)
        · have hTx : r_7 = gT G i := hrr_7
          have hPi : (fun k => !decide (gT G k = G 0 k)) i = true := by have h9 : ¬ gT G i = G 0 i := fun h => c23_8 (by rw [hrr_7, h]; exact (fil_at _ _ _).symm); simp [h9]
          refine lv_aload_n hx hb dX2_turnAll_26 rfl (lv_at hl 3 rfl) ?_
          refine rg (v := .ref (ad (b + 1 + 0))) (T := TX2) (N := 13) (C := RX2) hx hb hts hinX2 hown hK hP hR rfl 0 (by decide) (hts (.fieldLink RX2 9 "NeedleGrid$Grid" "directions" "[I") (by decide +kernel)) rfl dX2_turnAll_27 ?_
          refine lv_iload_n hx hb dX2_turnAll_30 rfl (lv_at hl 2 rfl) ?_
          refine lv_iload_n hx hb dX2_turnAll_31 rfl (lv_at hl 0 rfl) ?_
          refine rs (j := i) (n := 36) (x := r_7) hx hb hK hP hD hS hR 0 rfl (by decide) (by omega) (by decide) dX2_turnAll_32 (fun s_11 H locs hR hf_12 hP hD hS => ?_)
          have hf := hf.tr hf_12
          have hR : isR E ad s_11 b sG (gu G 0 (upd (fil (gT G) (G 0) i) i r_7)) := hR.eq (all13 rfl rfl rfl rfl rfl rfl rfl rfl rfl rfl rfl rfl rfl)
          refine lv_iinc (v := nI ((taN G i) + 1)) (lv' := [(1, .int (nI ((taN G i) + 1))), (3, .int r_7), (2, .int (nI i)), (0, .ref (ad b))]) hx hb dX2_turnAll_33 hl (k := 1) rfl (nI_1 _) (by decide) rfl (fun ls hl => ?_)
          refine lv_iinc (v := nI (i + 1)) (lv' := [(2, .int (nI (i + 1))), (1, .int (nI ((taN G i) + 1))), (3, .int r_7), (0, .ref (ad b))]) hx hb dX2_turnAll_36 hl (k := 2) rfl (nI_1 _) (by decide) rfl (fun ls hl => ?_)
          refine lv_goto (tgt := 4) hx hb dX2_turnAll_39 (by decide) ?_
          exact ih4 (i + 1) (by omega) (by omega) _ _ _ _ (by rw [← fil_s2 hTx]; exact hR) hf hP hD hS (by rw [show taN G (i + 1) = taN G i + 1 from cnI_t hPi]; exact lv_sub hl [1, 0, 3] rfl)
  exact LP_1 (36 + 1) 0 (Nat.zero_le _) (by omega) _ _ _ _ (by rw [fil_0, gu_id]; exact hR) hf hP hD hS (lv_sub hl [1, 0, 2] rfl)

set_option maxHeartbeats 4000000 in
set_option maxRecDepth 100000 in
theorem c_letGoBy (l : Launch) (E : NE) (ad : Nat → Nat) (st : NW) (b : Nat) (G : Nat → Nat → Int32) (hR : isR E ad st b sG G) (n : Nat) (hn : n ≤ 100) : nMi l yX2_letGoBy wsX2_letGoBy (nRm 4 91) E ad st [.ref (ad b), .int (nI n)] (fun r s1 => r = tgN G n ∧ isR E ad s1 b sG (gu (tgG G n) 8 (fun _ => tgG G n 8 0 + nI n)) ∧ fr b st s1) := by
  refine nSi (cc := cX2_letGoBy) (maxL := 4) (by decide) rfl (Nat.le_of_ble_eq_true rfl) ?_
  intro pg en s mi ar bw mth cd R Q A ls hx hb hml hown hts hRm hP hK hD hZ hA hl hret
  subst hRm
  have hown : s.vm.findClass RX2 = some mi.cls := hown
  have hS : va_S A s.heap s.heap [] := va_S.rf
  have hl : lv_has ls 4 [(0, .ref (ad b)), (1, .int (nI n))] := hl
  have hf : fr b st st := fr.rf
  have hinX2 : ∀ w ∈ wsX20, w ∈ wsX2_letGoBy := by decide +kernel
  refine lv_iconst (v := 0) hx hb dX2_letGoBy_0 (by decide) ?_
  refine lv_istore_n (lv' := [(2, .int 0), (0, .ref (ad b)), (1, .int (nI n))]) hx hb dX2_letGoBy_1 rfl hl (by decide) rfl (fun ls hl => ?_)
  refine lv_iconst (v := 0) hx hb dX2_letGoBy_2 (by decide) ?_
  refine lv_istore_n (lv' := [(3, .int 0), (2, .int 0), (0, .ref (ad b)), (1, .int (nI n))]) hx hb dX2_letGoBy_3 rfl hl (by decide) rfl (fun ls hl => ?_)
  have LP_1 : ∀ (k9 i : Nat), i ≤ n → n - i < k9 → ∀ (sL_2 : NW) (H : Heap) (locs : List Loc) (ls : Array Slot), isR E ad sL_2 b sG ((tgG G i)) → fr b st sL_2 → nP E ad sL_2 H → nD A ad sL_2 → va_S A s.heap H locs → lv_has ls 4 [(2, .int (tgN G i)), (3, .int (nI i)), (0, .ref (ad b)), (1, .int (nI n))] → W pg l en (nRm 4 91) s mi ar bw mth cd H locs 0 0 Q (F0 mi 4 ls []) := by
    intro k9
    induction k9 with
    | zero => intro i _ h9; exact absurd h9 (Nat.not_lt_zero _)
    | succ k9 ih4 =>
      intro i hi hk9 sL_2 H locs ls hR hf hP hD hS hl
      refine lv_iload_n hx hb dX2_letGoBy_4 rfl (lv_at hl 1 rfl) ?_
      refine lv_iload_n hx hb dX2_letGoBy_5 rfl (lv_at hl 3 rfl) ?_
      refine lv_icmp_ge (tgt := 22) hx hb dX2_letGoBy_6 (by decide) (fun c6_2 => ?_) (fun c6_2 => ?_)
      · have h36 : n ≤ i := (nI_leI (by omega) (by omega)).mp c6_2
        obtain rfl : n = i := by omega
        refine lv_aload_n hx hb dX2_letGoBy_22 rfl (lv_at hl 2 rfl) ?_
        refine lv_dup hx hb dX2_letGoBy_23 rfl ?_
        refine rg (v := .int ((tgG G n) 8 0)) (T := TX2) (N := 13) (C := RX2) hx hb hts hinX2 hown hK hP hR rfl 8 (by decide) (hts (.fieldLink RX2 53 "NeedleGrid$Grid" "stepsSoFar" "I") (by decide +kernel)) rfl dX2_letGoBy_24 ?_
        refine lv_iload_n hx hb dX2_letGoBy_27 rfl (lv_at hl 3 rfl) ?_
        refine lv_iadd hx hb dX2_letGoBy_28 ?_
        refine rp (v := ((tgG G n) 8 0) + (nI n)) (ty := .int) (T := TX2) (N := 13) (C := RX2) hx hb hts hinX2 tyX2 tyX2_ok nmX2 hown hK hP hD hS hR rfl 8 (by decide) (hts (.fieldLink RX2 53 "NeedleGrid$Grid" "stepsSoFar" "I") (by decide +kernel)) rfl rfl (by decide +kernel) rfl rfl dX2_letGoBy_29 (fun s_4 H locs hR hf_5 hP hD hS => ?_)
        have hf := hf.tr hf_5
        refine lv_iload_n hx hb dX2_letGoBy_32 rfl (lv_at hl 0 rfl) ?_
        exact hret _ _ _ _ _ _ hP hD hS (⟨rfl, hR, hf⟩) dX2_letGoBy_33
      · have hlt : i < n := by have := mt (nI_leI (a := n) (b := i) (by omega) (by omega)).mpr c6_2; omega
        refine lv_iload_n hx hb dX2_letGoBy_9 rfl (lv_at hl 0 rfl) ?_
        refine lv_aload_n hx hb dX2_letGoBy_10 rfl (lv_at hl 2 rfl) ?_
        refine nVi (As := []) (rest := _) hx hb hml hown hts hP hK hD hZ hA hS ⟨Nat.zero_le _, Nat.zero_le _⟩ hR.1 rfl (c_turnAll l E ad sL_2 b (tgG G i) hR ) (cwV 0 hts gX2_letGoBy_X2_turnAll rfl rfl rfl (by decide +kernel) ⟨Nat.le_of_ble_eq_true rfl, Nat.le_of_ble_eq_true rfl⟩) hl.1 rfl (Nat.le_of_ble_eq_true rfl) dX2_letGoBy_11 (fun r_6 s_8 H locs hq hP hD hS => ?_)
        obtain ⟨hrr_6, hR, hf_7⟩ := hq
        have hf := hf.tr hf_7
        refine lv_iadd hx hb dX2_letGoBy_14 ?_
        refine lv_topi (fun x2_15 ex2_15 => ?_)
        refine lv_istore_n (lv' := [(2, .int x2_15), (3, .int (nI i)), (0, .ref (ad b)), (1, .int (nI n))]) hx hb dX2_letGoBy_15 rfl hl (by decide) rfl (fun ls hl => ?_)
        refine lv_iinc (v := nI (i + 1)) (lv' := [(3, .int (nI (i + 1))), (2, .int x2_15), (0, .ref (ad b)), (1, .int (nI n))]) hx hb dX2_letGoBy_16 hl (k := 1) rfl (nI_1 _) (by decide) rfl (fun ls hl => ?_)
        refine lv_goto (tgt := 4) hx hb dX2_letGoBy_19 (by decide) ?_
        exact ih4 (i + 1) (by omega) (by omega) _ _ _ _ hR hf hP hD hS (by rw [show tgN G (i + 1) = x2_15 from by rw [ex2_15, hrr_6]; rfl]; exact lv_sub hl [1, 0, 2, 3] rfl)
  exact LP_1 (n + 1) 0 (Nat.zero_le _) (by omega) _ _ _ _ hR hf hP hD hS (lv_sub hl [1, 0, 2, 3] rfl)

set_option maxHeartbeats 4000000 in
set_option maxRecDepth 100000 in
theorem c_addBarToStill (l : Launch) (E : NE) (ad : Nat → Nat) (st : NW) (b : Nat) (G : Nat → Nat → Int32) (hR : isR E ad st b sG G) (c : Nat) (hc : c < 36) : nMv l yX2_addBarToStill wsX2_addBarToStill (nRm 2 51) E ad st [.ref (ad b), .int (nI c)] (fun s1 => isR E ad s1 b sG (gu (gu G 9 (fun j => G 9 j + pull (nI c) (G 3 c) (G 4 c) (nI j) * acr (G 3 c))) 10 (fun j => G 10 j + pull (nI c) (G 3 c) (G 4 c) (nI j) * dwn (G 3 c))) ∧ fr b st s1) := by
  refine nSv (cc := cX2_addBarToStill) (maxL := 6) (by decide) rfl (Nat.le_of_ble_eq_true rfl) ?_
  intro pg en s mi ar bw mth cd R Q A ls hx hb hml hown hts hRm hP hK hD hZ hA hl hret
  subst hRm
  have hown : s.vm.findClass RX2 = some mi.cls := hown
  have hS : va_S A s.heap s.heap [] := va_S.rf
  have hl : lv_has ls 6 [(0, .ref (ad b)), (1, .int (nI c))] := hl
  have hf : fr b st st := fr.rf
  have hinX2 : ∀ w ∈ wsX20, w ∈ wsX2_addBarToStill := by decide +kernel
  refine lv_aload_n hx hb dX2_addBarToStill_0 rfl (lv_at hl 0 rfl) ?_
  refine rg (v := .ref (ad (b + 1 + 3))) (T := TX2) (N := 13) (C := RX2) hx hb hts hinX2 hown hK hP hR rfl 3 (by decide) (hts (.fieldLink RX2 22 "NeedleGrid$Grid" "barDirections" "[I") (by decide +kernel)) rfl dX2_addBarToStill_1 ?_
  refine lv_iload_n hx hb dX2_addBarToStill_4 rfl (lv_at hl 1 rfl) ?_
  refine ra (j := c) (n := 36) hx hb hK hP hR 3 rfl (by omega) (by decide) dX2_addBarToStill_5 ?_
  refine nNi (As := [.int (G 3 c)]) (rest := _) hx hb hml hown hts hP hK hD hZ hA hS ⟨Nat.zero_le _, Nat.zero_le _⟩ (c_across l E ad st (G 3 c)) ⟨va_cnB 1 hts gX2_addBarToStill_X4_across_n56 rfl rfl rfl (nlM_X2_56 hZ) (hts (.initialized RX4) (by decide +kernel)) (by decide +kernel) ⟨Nat.le_of_ble_eq_true rfl, Nat.le_of_ble_eq_true rfl⟩, hts (.static yX4_across) (by decide +kernel), trivial⟩ hl.1 rfl (Nat.le_of_ble_eq_true rfl) dX2_addBarToStill_6 (fun r_1 s_2 H locs hq hP hD hS => ?_)
  obtain ⟨rfl, rfl⟩ := hq
  refine lv_topi (fun x2_9 ex2_9 => ?_)
  refine lv_istore_n (lv' := [(2, .int x2_9), (0, .ref (ad b)), (1, .int (nI c))]) hx hb dX2_addBarToStill_9 rfl hl (by decide) rfl (fun ls hl => ?_)
  refine lv_aload_n hx hb dX2_addBarToStill_10 rfl (lv_at hl 1 rfl) ?_
  refine rg (v := .ref (ad (b + 1 + 3))) (T := TX2) (N := 13) (C := RX2) hx hb hts hinX2 hown hK hP hR rfl 3 (by decide) (hts (.fieldLink RX2 22 "NeedleGrid$Grid" "barDirections" "[I") (by decide +kernel)) rfl dX2_addBarToStill_11 ?_
  refine lv_iload_n hx hb dX2_addBarToStill_14 rfl (lv_at hl 2 rfl) ?_
  refine ra (j := c) (n := 36) hx hb hK hP hR 3 rfl (by omega) (by decide) dX2_addBarToStill_15 ?_
  refine nNi (As := [.int (G 3 c)]) (rest := _) hx hb hml hown hts hP hK hD hZ hA hS ⟨Nat.zero_le _, Nat.zero_le _⟩ (c_down l E ad st (G 3 c)) ⟨va_cnB 1 hts gX2_addBarToStill_X4_down_n60 rfl rfl rfl (nlM_X2_60 hZ) (hts (.initialized RX4) (by decide +kernel)) (by decide +kernel) ⟨Nat.le_of_ble_eq_true rfl, Nat.le_of_ble_eq_true rfl⟩, hts (.static yX4_down) (by decide +kernel), trivial⟩ hl.1 rfl (Nat.le_of_ble_eq_true rfl) dX2_addBarToStill_16 (fun r_3 s_4 H locs hq hP hD hS => ?_)
  obtain ⟨rfl, rfl⟩ := hq
  refine lv_topi (fun x3_19 ex3_19 => ?_)
  refine lv_istore_n (lv' := [(3, .int x3_19), (2, .int x2_9), (0, .ref (ad b)), (1, .int (nI c))]) hx hb dX2_addBarToStill_19 rfl hl (by decide) rfl (fun ls hl => ?_)
  refine lv_iconst (v := 0) hx hb dX2_addBarToStill_20 (by decide) ?_
  refine lv_istore (lv' := [(4, .int 0), (3, .int x3_19), (2, .int x2_9), (0, .ref (ad b)), (1, .int (nI c))]) hx hb dX2_addBarToStill_21 hl (by decide) rfl (fun ls hl => ?_)
  have LP_5 : ∀ (k9 i : Nat), i ≤ 36 → 36 - i < k9 → ∀ (sL_6 : NW) (H : Heap) (locs : List Loc) (ls : Array Slot), isR E ad sL_6 b sG (gu (gu G 9 (fil (fun j => G 9 j + pull (nI c) (G 3 c) (G 4 c) (nI j) * acr (G 3 c)) (G 9) i)) 10 (fil (fun j => G 10 j + pull (nI c) (G 3 c) (G 4 c) (nI j) * dwn (G 3 c)) (G 10) i)) → fr b st sL_6 → nP E ad sL_6 H → nD A ad sL_6 → va_S A s.heap H locs → lv_has ls 6 [(4, .int (nI i)), (3, .int x3_19), (2, .int x2_9), (0, .ref (ad b)), (1, .int (nI c))] → W pg l en (nRm 2 51) s mi ar bw mth cd H locs 0 0 Q (F0 mi 23 ls []) := by
    intro k9
    induction k9 with
    | zero => intro i _ h9; exact absurd h9 (Nat.not_lt_zero _)
    | succ k9 ih23 =>
      intro i hi hk9 sL_6 H locs ls hR hf hP hD hS hl
      refine lv_iload hx hb dX2_addBarToStill_23 (lv_at hl 0 rfl) ?_
      refine lv_bipush (v := 36) hx hb dX2_addBarToStill_25 (by decide) ?_
      refine lv_icmp_ge (tgt := 84) hx hb dX2_addBarToStill_27 (by decide) (fun c27_6 => ?_) (fun c27_6 => ?_)
      · have h36 : 36 ≤ i := (nI_geL (n := 36) rfl (by decide) (by omega)).mp c27_6
        obtain rfl : i = 36 := by omega
        obtain ⟨s_8, hR, hf_9, hP, hD⟩ := hR.can hP hD 9 (n := 36) (z := 0) rfl (by decide) (by decide) (g := (fun j => G 9 j + pull (nI c) (G 3 c) (G 4 c) (nI j) * acr (G 3 c))) (fun j9 h9 => (show fil (fun j => G 9 j + pull (nI c) (G 3 c) (G 4 c) (nI j) * acr (G 3 c)) (G 9) 36 j9 = (fun j => G 9 j + pull (nI c) (G 3 c) (G 4 c) (nI j) * acr (G 3 c)) j9 from fil_in h9))
        have hf := hf.tr hf_9
        obtain ⟨s_10, hR, hf_11, hP, hD⟩ := hR.can hP hD 10 (n := 36) (z := 0) rfl (by decide) (by decide) (g := (fun j => G 10 j + pull (nI c) (G 3 c) (G 4 c) (nI j) * dwn (G 3 c))) (fun j9 h9 => (show fil (fun j => G 10 j + pull (nI c) (G 3 c) (G 4 c) (nI j) * dwn (G 3 c)) (G 10) 36 j9 = (fun j => G 10 j + pull (nI c) (G 3 c) (G 4 c) (nI j) * dwn (G 3 c)) j9 from fil_in h9))
        have hf := hf.tr hf_11
        have hR : isR E ad s_10 b sG (gu (gu G 9 (fun j => G 9 j + pull (nI c) (G 3 c) (G 4 c) (nI j) * acr (G 3 c))) 10 (fun j => G 10 j + pull (nI c) (G 3 c) (G 4 c) (nI j) * dwn (G 3 c))) := hR.eq (fun k9 _ => by simp only [gu]; (repeat' split) <;> first | rfl | omega)
        exact hret _ _ _ _ _ hP hD hS (⟨hR, hf⟩) dX2_addBarToStill_84
      · have hlt : i < 36 := by have := mt (nI_geL (n := 36) (i := i) rfl (by decide) (by omega)).mpr c27_6; omega
        refine lv_iload_n hx hb dX2_addBarToStill_30 rfl (lv_at hl 4 rfl) ?_
        refine lv_aload_n hx hb dX2_addBarToStill_31 rfl (lv_at hl 3 rfl) ?_
        refine rg (v := .ref (ad (b + 1 + 3))) (T := TX2) (N := 13) (C := RX2) hx hb hts hinX2 hown hK hP hR rfl 3 (by decide) (hts (.fieldLink RX2 22 "NeedleGrid$Grid" "barDirections" "[I") (by decide +kernel)) rfl dX2_addBarToStill_32 ?_
        refine lv_iload_n hx hb dX2_addBarToStill_35 rfl (lv_at hl 4 rfl) ?_
        refine ra (j := c) (n := 36) hx hb hK hP hR 3 rfl (by omega) (by decide) dX2_addBarToStill_36 ?_
        refine lv_aload_n hx hb dX2_addBarToStill_37 rfl (lv_at hl 3 rfl) ?_
        refine rg (v := .ref (ad (b + 1 + 4))) (T := TX2) (N := 13) (C := RX2) hx hb hts hinX2 hown hK hP hR rfl 4 (by decide) (hts (.fieldLink RX2 25 "NeedleGrid$Grid" "barStrengths" "[I") (by decide +kernel)) rfl dX2_addBarToStill_38 ?_
        refine lv_iload_n hx hb dX2_addBarToStill_41 rfl (lv_at hl 4 rfl) ?_
        refine ra (j := c) (n := 36) hx hb hK hP hR 4 rfl (by omega) (by decide) dX2_addBarToStill_42 ?_
        refine lv_iload hx hb dX2_addBarToStill_43 (lv_at hl 0 rfl) ?_
        refine nNi (As := [.int (nI c), .int (G 3 c), .int (G 4 c), .int (nI i)]) (rest := _) hx hb hml hown hts hP hK hD hZ hA hS ⟨Nat.zero_le _, Nat.zero_le _⟩ (c_pull l E ad sL_6 (nI c) (G 3 c) (G 4 c) (nI i)) ⟨va_cnB 4 hts gX2_addBarToStill_X4_pull_n74 rfl rfl rfl (nlM_X2_74 hZ) (hts (.initialized RX4) (by decide +kernel)) (by decide +kernel) ⟨Nat.le_of_ble_eq_true rfl, Nat.le_of_ble_eq_true rfl⟩, hts (.static yX4_pull) (by decide +kernel), trivial⟩ hl.1 rfl (Nat.le_of_ble_eq_true rfl) dX2_addBarToStill_45 (fun r_12 s_13 H locs hq hP hD hS => ?_)
        obtain ⟨rfl, rfl⟩ := hq
        refine lv_topi (fun x5_48 ex5_48 => ?_)
        refine lv_istore (lv' := [(5, .int x5_48), (4, .int (nI i)), (3, .int x3_19), (2, .int x2_9), (0, .ref (ad b)), (1, .int (nI c))]) hx hb dX2_addBarToStill_48 hl (by decide) rfl (fun ls hl => ?_)
        refine lv_aload_n hx hb dX2_addBarToStill_50 rfl (lv_at hl 4 rfl) ?_
        refine rg (v := .ref (ad (b + 1 + 9))) (T := TX2) (N := 13) (C := RX2) hx hb hts hinX2 hown hK hP hR rfl 9 (by decide) (hts (.fieldLink RX2 31 "NeedleGrid$Grid" "stillX" "[I") (by decide +kernel)) rfl dX2_addBarToStill_51 ?_
        refine lv_iload hx hb dX2_addBarToStill_54 (lv_at hl 1 rfl) ?_
        refine lv_dup2_11 hx hb dX2_addBarToStill_56 rfl rfl ?_
        refine ra (j := i) (n := 36) hx hb hK hP hR 9 rfl (by omega) (by decide) dX2_addBarToStill_57 ?_
        refine lv_iload hx hb dX2_addBarToStill_58 (lv_at hl 0 rfl) ?_
        refine lv_iload_n hx hb dX2_addBarToStill_60 rfl (lv_at hl 3 rfl) ?_
        refine lv_imul hx hb dX2_addBarToStill_61 ?_
        refine lv_iadd hx hb dX2_addBarToStill_62 ?_
        refine rs (j := i) (n := 36) (x := ((fil (fun j => G 9 j + pull (nI c) (G 3 c) (G 4 c) (nI j) * acr (G 3 c)) (G 9) i) i) + (x5_48 * x2_9)) hx hb hK hP hD hS hR 9 rfl (by decide) (by omega) (by decide) dX2_addBarToStill_63 (fun s_14 H locs hR hf_15 hP hD hS => ?_)
        have hf := hf.tr hf_15
        have hR : isR E ad s_14 b sG (gu (gu G 10 (fil (fun j => G 10 j + pull (nI c) (G 3 c) (G 4 c) (nI j) * dwn (G 3 c)) (G 10) i)) 9 (upd (fil (fun j => G 9 j + pull (nI c) (G 3 c) (G 4 c) (nI j) * acr (G 3 c)) (G 9) i) i (((fil (fun j => G 9 j + pull (nI c) (G 3 c) (G 4 c) (nI j) * acr (G 3 c)) (G 9) i) i) + (x5_48 * x2_9)))) := hR.eq (all13 rfl rfl rfl rfl rfl rfl rfl rfl rfl rfl rfl rfl rfl)
        refine lv_aload_n hx hb dX2_addBarToStill_64 rfl (lv_at hl 4 rfl) ?_
        refine rg (v := .ref (ad (b + 1 + 10))) (T := TX2) (N := 13) (C := RX2) hx hb hts hinX2 hown hK hP hR rfl 10 (by decide) (hts (.fieldLink RX2 34 "NeedleGrid$Grid" "stillY" "[I") (by decide +kernel)) rfl dX2_addBarToStill_65 ?_
        refine lv_iload hx hb dX2_addBarToStill_68 (lv_at hl 1 rfl) ?_
        refine lv_dup2_11 hx hb dX2_addBarToStill_70 rfl rfl ?_
        refine ra (j := i) (n := 36) hx hb hK hP hR 10 rfl (by omega) (by decide) dX2_addBarToStill_71 ?_
        refine lv_iload hx hb dX2_addBarToStill_72 (lv_at hl 0 rfl) ?_
        refine lv_iload_n hx hb dX2_addBarToStill_74 rfl (lv_at hl 2 rfl) ?_
        refine lv_imul hx hb dX2_addBarToStill_75 ?_
        refine lv_iadd hx hb dX2_addBarToStill_76 ?_
        refine rs (j := i) (n := 36) (x := ((fil (fun j => G 10 j + pull (nI c) (G 3 c) (G 4 c) (nI j) * dwn (G 3 c)) (G 10) i) i) + (x5_48 * x3_19)) hx hb hK hP hD hS hR 10 rfl (by decide) (by omega) (by decide) dX2_addBarToStill_77 (fun s_16 H locs hR hf_17 hP hD hS => ?_)
        have hf := hf.tr hf_17
        have hR : isR E ad s_16 b sG (gu (gu G 9 (upd (fil (fun j => G 9 j + pull (nI c) (G 3 c) (G 4 c) (nI j) * acr (G 3 c)) (G 9) i) i (((fil (fun j => G 9 j + pull (nI c) (G 3 c) (G 4 c) (nI j) * acr (G 3 c)) (G 9) i) i) + (x5_48 * x2_9)))) 10 (upd (fil (fun j => G 10 j + pull (nI c) (G 3 c) (G 4 c) (nI j) * dwn (G 3 c)) (G 10) i) i (((fil (fun j => G 10 j + pull (nI c) (G 3 c) (G 4 c) (nI j) * dwn (G 3 c)) (G 10) i) i) + (x5_48 * x3_19)))) := hR.eq (all13 rfl rfl rfl rfl rfl rfl rfl rfl rfl rfl rfl rfl rfl)
        refine lv_iinc (v := nI (i + 1)) (lv' := [(4, .int (nI (i + 1))), (5, .int x5_48), (3, .int x3_19), (2, .int x2_9), (0, .ref (ad b)), (1, .int (nI c))]) hx hb dX2_addBarToStill_78 hl (k := 1) rfl (nI_1 _) (by decide) rfl (fun ls hl => ?_)
        refine lv_goto (tgt := 23) hx hb dX2_addBarToStill_81 (by decide) ?_
        exact ih23 (i + 1) (by omega) (by omega) _ _ _ _ (by rw [← fil_s2 (x := G 9 i + x5_48 * x2_9) (by rw [ex5_48, ex2_9]), ← fil_s2 (x := G 10 i + x5_48 * x3_19) (by rw [ex5_48, ex3_19])]; simpa only [fil_at] using hR) hf hP hD hS (lv_sub hl [0, 2, 3, 4, 5] rfl)
  exact LP_5 (36 + 1) 0 (Nat.zero_le _) (by omega) _ _ _ _ (by rw [fil_0, fil_0, gu_id, gu_id]; exact hR) hf hP hD hS (lv_sub hl [0, 1, 2, 3, 4] rfl)

set_option maxHeartbeats 4000000 in
set_option maxRecDepth 100000 in
theorem c_measureAll (l : Launch) (E : NE) (ad : Nat → Nat) (st : NW) (b : Nat) (G : Nat → Nat → Int32) (hR : isR E ad st b sG G) : nMv l yX2_measureAll wsX2_measureAll (nRm 3 76) E ad st [.ref (ad b)] (fun s1 => isR E ad s1 b sG (maG G) ∧ fr b st s1) := by
  refine nSv (cc := cX2_measureAll) (maxL := 5) (by decide) rfl (Nat.le_of_ble_eq_true rfl) ?_
  intro pg en s mi ar bw mth cd R Q A ls hx hb hml hown hts hRm hP hK hD hZ hA hl hret
  subst hRm
  have hown : s.vm.findClass RX2 = some mi.cls := hown
  have hS : va_S A s.heap s.heap [] := va_S.rf
  have hl : lv_has ls 5 [(0, .ref (ad b))] := hl
  have hf : fr b st st := fr.rf
  have hinX2 : ∀ w ∈ wsX20, w ∈ wsX2_measureAll := by decide +kernel
  refine lv_aload_n hx hb dX2_measureAll_0 rfl (lv_at hl 0 rfl) ?_
  refine rg (v := .ref (ad (b + 1 + 5))) (T := TX2) (N := 13) (C := RX2) hx hb hts hinX2 hown hK hP hR rfl 5 (by decide) (hts (.fieldLink RX2 28 "NeedleGrid$Grid" "settings" "[I") (by decide +kernel)) rfl dX2_measureAll_1 ?_
  refine lv_iconst (v := 1) hx hb dX2_measureAll_4 (by decide) ?_
  refine ra (j := 1) (n := 3) hx hb hK hP hR 5 rfl (by omega) (by decide) dX2_measureAll_5 ?_
  refine lv_aload_n hx hb dX2_measureAll_6 rfl (lv_at hl 0 rfl) ?_
  refine rg (v := .int (G 6 0)) (T := TX2) (N := 13) (C := RX2) hx hb hts hinX2 hown hK hP hR rfl 6 (by decide) (hts (.fieldLink RX2 46 "NeedleGrid$Grid" "turns" "I") (by decide +kernel)) rfl dX2_measureAll_7 ?_
  refine lv_imul hx hb dX2_measureAll_10 ?_
  refine lv_topi (fun x1_11 ex1_11 => ?_)
  refine lv_istore_n (lv' := [(1, .int x1_11), (0, .ref (ad b))]) hx hb dX2_measureAll_11 rfl hl (by decide) rfl (fun ls hl => ?_)
  refine lv_iload_n hx hb dX2_measureAll_12 rfl (lv_at hl 0 rfl) ?_
  refine lv_aload_n hx hb dX2_measureAll_13 rfl (lv_at hl 1 rfl) ?_
  refine rg (v := .int (G 7 0)) (T := TX2) (N := 13) (C := RX2) hx hb hts hinX2 hown hK hP hR rfl 7 (by decide) (hts (.fieldLink RX2 50 "NeedleGrid$Grid" "coilDirection" "I") (by decide +kernel)) rfl dX2_measureAll_14 ?_
  refine nNi (As := [.int (G 7 0)]) (rest := _) hx hb hml hown hts hP hK hD hZ hA hS ⟨Nat.zero_le _, Nat.zero_le _⟩ (c_across l E ad st (G 7 0)) ⟨va_cnB 1 hts gX2_measureAll_X4_across_n56 rfl rfl rfl (nlM_X2_56 hZ) (hts (.initialized RX4) (by decide +kernel)) (by decide +kernel) ⟨Nat.le_of_ble_eq_true rfl, Nat.le_of_ble_eq_true rfl⟩, hts (.static yX4_across) (by decide +kernel), trivial⟩ hl.1 rfl (Nat.le_of_ble_eq_true rfl) dX2_measureAll_17 (fun r_1 s_2 H locs hq hP hD hS => ?_)
  obtain ⟨rfl, rfl⟩ := hq
  refine lv_imul hx hb dX2_measureAll_20 ?_
  refine lv_topi (fun x2_21 ex2_21 => ?_)
  refine lv_istore_n (lv' := [(2, .int x2_21), (1, .int x1_11), (0, .ref (ad b))]) hx hb dX2_measureAll_21 rfl hl (by decide) rfl (fun ls hl => ?_)
  refine lv_iload_n hx hb dX2_measureAll_22 rfl (lv_at hl 1 rfl) ?_
  refine lv_aload_n hx hb dX2_measureAll_23 rfl (lv_at hl 2 rfl) ?_
  refine rg (v := .int (G 7 0)) (T := TX2) (N := 13) (C := RX2) hx hb hts hinX2 hown hK hP hR rfl 7 (by decide) (hts (.fieldLink RX2 50 "NeedleGrid$Grid" "coilDirection" "I") (by decide +kernel)) rfl dX2_measureAll_24 ?_
  refine nNi (As := [.int (G 7 0)]) (rest := _) hx hb hml hown hts hP hK hD hZ hA hS ⟨Nat.zero_le _, Nat.zero_le _⟩ (c_down l E ad st (G 7 0)) ⟨va_cnB 1 hts gX2_measureAll_X4_down_n60 rfl rfl rfl (nlM_X2_60 hZ) (hts (.initialized RX4) (by decide +kernel)) (by decide +kernel) ⟨Nat.le_of_ble_eq_true rfl, Nat.le_of_ble_eq_true rfl⟩, hts (.static yX4_down) (by decide +kernel), trivial⟩ hl.1 rfl (Nat.le_of_ble_eq_true rfl) dX2_measureAll_27 (fun r_3 s_4 H locs hq hP hD hS => ?_)
  obtain ⟨rfl, rfl⟩ := hq
  refine lv_imul hx hb dX2_measureAll_30 ?_
  refine lv_aload_n hx hb dX2_measureAll_31 rfl (lv_at hl 2 rfl) ?_
  refine rg (v := .ref (ad (b + 1 + 5))) (T := TX2) (N := 13) (C := RX2) hx hb hts hinX2 hown hK hP hR rfl 5 (by decide) (hts (.fieldLink RX2 28 "NeedleGrid$Grid" "settings" "[I") (by decide +kernel)) rfl dX2_measureAll_32 ?_
  refine lv_iconst (v := 0) hx hb dX2_measureAll_35 (by decide) ?_
  refine ra (j := 0) (n := 3) hx hb hK hP hR 5 rfl (by omega) (by decide) dX2_measureAll_36 ?_
  refine lv_isub hx hb dX2_measureAll_37 ?_
  refine lv_topi (fun x3_38 ex3_38 => ?_)
  refine lv_istore_n (lv' := [(3, .int x3_38), (2, .int x2_21), (1, .int x1_11), (0, .ref (ad b))]) hx hb dX2_measureAll_38 rfl hl (by decide) rfl (fun ls hl => ?_)
  refine lv_iconst (v := 0) hx hb dX2_measureAll_39 (by decide) ?_
  refine lv_istore (lv' := [(4, .int 0), (3, .int x3_38), (2, .int x2_21), (1, .int x1_11), (0, .ref (ad b))]) hx hb dX2_measureAll_40 hl (by decide) rfl (fun ls hl => ?_)
  have LP_5 : ∀ (k9 i : Nat), i ≤ 36 → 36 - i < k9 → ∀ (sL_6 : NW) (H : Heap) (locs : List Loc) (ls : Array Slot), isR E ad sL_6 b sG (gu (gu G 9 (fil (fun _ => x2_21) (G 9) i)) 10 (fil (fun _ => x3_38) (G 10) i)) → fr b st sL_6 → nP E ad sL_6 H → nD A ad sL_6 → va_S A s.heap H locs → lv_has ls 5 [(4, .int (nI i)), (3, .int x3_38), (2, .int x2_21), (0, .ref (ad b))] → W pg l en (nRm 3 76) s mi ar bw mth cd H locs 0 0 Q (F0 mi 42 ls []) := by
    intro k9
    induction k9 with
    | zero => intro i _ h9; exact absurd h9 (Nat.not_lt_zero _)
    | succ k9 ih42 =>
      intro i hi hk9 sL_6 H locs ls hR hf hP hD hS hl
      refine lv_iload hx hb dX2_measureAll_42 (lv_at hl 0 rfl) ?_
      refine lv_bipush (v := 36) hx hb dX2_measureAll_44 (by decide) ?_
      refine lv_icmp_ge (tgt := 71) hx hb dX2_measureAll_46 (by decide) (fun c46_6 => ?_) (fun c46_6 => ?_)
      · have h36 : 36 ≤ i := (nI_geL (n := 36) rfl (by decide) (by omega)).mp c46_6
        obtain rfl : i = 36 := by omega
        refine lv_iconst (v := 0) hx hb dX2_measureAll_71 (by decide) ?_
        refine lv_istore (lv' := [(4, .int 0), (3, .int x3_38), (2, .int x2_21), (0, .ref (ad b))]) hx hb dX2_measureAll_72 hl (by decide) rfl (fun ls hl => ?_)
        obtain ⟨s_8, hR, hf_9, hP, hD⟩ := hR.can hP hD 9 (n := 36) (z := 0) rfl (by decide) (by decide) (g := maX G 0) (fun j9 h9 => (show fil (fun _ => x2_21) (G 9) 36 j9 = maX G 0 j9 from (fil_in h9).trans (by show x2_21 = _; rw [ex2_21, ex1_11]; rfl)))
        have hf := hf.tr hf_9
        have hR : isR E ad s_8 b sG (gu (gu G 10 (fil (fun _ => x3_38) (G 10) 36)) 9 (maX G 0)) := hR.eq (all13 rfl rfl rfl rfl rfl rfl rfl rfl rfl rfl rfl rfl rfl)
        obtain ⟨s_10, hR, hf_11, hP, hD⟩ := hR.can hP hD 10 (n := 36) (z := 0) rfl (by decide) (by decide) (g := maY G 0) (fun j9 h9 => (show fil (fun _ => x3_38) (G 10) 36 j9 = maY G 0 j9 from (fil_in h9).trans (by show x3_38 = _; rw [ex3_38, ex1_11]; rfl)))
        have hf := hf.tr hf_11
        have hR : isR E ad s_10 b sG (gu (gu G 9 (maX G 0)) 10 (maY G 0)) := hR.eq (all13 rfl rfl rfl rfl rfl rfl rfl rfl rfl rfl rfl rfl rfl)
        have LP_12 : ∀ (k9 j : Nat), j ≤ 36 → 36 - j < k9 → ∀ (sL_13 : NW) (H : Heap) (locs : List Loc) (ls : Array Slot), isR E ad sL_13 b sG (gu (gu G 9 (maX G j)) 10 (maY G j)) → fr b st sL_13 → nP E ad sL_13 H → nD A ad sL_13 → va_S A s.heap H locs → lv_has ls 5 [(4, .int (nI j)), (0, .ref (ad b))] → W pg l en (nRm 3 76) s mi ar bw mth cd H locs 0 0 Q (F0 mi 74 ls []) := by
          intro k9
          induction k9 with
          | zero => intro j _ h9; exact absurd h9 (Nat.not_lt_zero _)
          | succ k9 ih74 =>
            intro j hi hk9 sL_13 H locs ls hR hf hP hD hS hl
            refine lv_iload hx hb dX2_measureAll_74 (lv_at hl 0 rfl) ?_
            refine lv_bipush (v := 36) hx hb dX2_measureAll_76 (by decide) ?_
            refine lv_icmp_ge (tgt := 102) hx hb dX2_measureAll_78 (by decide) (fun c78_13 => ?_) (fun c78_13 => ?_)
            · have h36 : 36 ≤ j := (nI_geL (n := 36) rfl (by decide) (by omega)).mp c78_13
              obtain rfl : j = 36 := by omega
              refine lv_aload_n hx hb dX2_measureAll_102 rfl (lv_at hl 1 rfl) ?_
              refine nVv (As := []) (rest := _) hx hb hml hown hts hP hK hD hZ hA hS ⟨Nat.zero_le _, Nat.zero_le _⟩ hR.1 rfl (c_measureField l E ad sL_13 b (gu (gu G 9 (maX G 36)) 10 (maY G 36)) hR ) (cwV 0 hts gX2_measureAll_X2_measureField rfl rfl rfl (by decide +kernel) ⟨Nat.le_of_ble_eq_true rfl, Nat.le_of_ble_eq_true rfl⟩) hl.1 rfl (Nat.le_of_ble_eq_true rfl) dX2_measureAll_103 (fun s_17 H locs hq hP hD hS => ?_)
              obtain ⟨hR, hf_16⟩ := hq
              have hf := hf.tr hf_16
              exact hret _ _ _ _ _ hP hD hS (⟨hR, hf⟩) dX2_measureAll_106
            · have hlt : j < 36 := by have := mt (nI_geL (n := 36) (i := j) rfl (by decide) (by omega)).mpr c78_13; omega
              refine lv_aload_n hx hb dX2_measureAll_81 rfl (lv_at hl 1 rfl) ?_
              refine lv_iload hx hb dX2_measureAll_82 (lv_at hl 0 rfl) ?_
              refine nVi (As := [.int (nI j)]) (rest := _) hx hb hml hown hts hP hK hD hZ hA hS ⟨Nat.zero_le _, Nat.zero_le _⟩ hR.1 rfl (c_hasBar l E ad sL_13 b (gu (gu G 9 (maX G j)) 10 (maY G j)) hR j (by omega)) (cwV 1 hts gX2_measureAll_X2_hasBar rfl rfl rfl (by decide +kernel) ⟨Nat.le_of_ble_eq_true rfl, Nat.le_of_ble_eq_true rfl⟩) hl.1 rfl (Nat.le_of_ble_eq_true rfl) dX2_measureAll_84 (fun r_18 s_19 H locs hq hP hD hS => ?_)
              obtain ⟨hrr_18, rfl⟩ := hq
              have hrr_18 : r_18 = if G 4 j ≤ 0 then 0 else 1 := by rw [hrr_18]; simp only [gu]; rfl
              refine lv_if_eq (tgt := 96) hx hb dX2_measureAll_87 (by decide) (fun c87_19 => ?_) (fun c87_19 => ?_)
              · have hPi : G 4 j ≤ 0 := b01_f hrr_18 c87_19
                refine lv_iinc (v := nI (j + 1)) (lv' := [(4, .int (nI (j + 1))), (0, .ref (ad b))]) hx hb dX2_measureAll_96 hl (k := 0) rfl (nI_1 _) (by decide) rfl (fun ls hl => ?_)
                refine lv_goto (tgt := 74) hx hb dX2_measureAll_99 (by decide) ?_
                exact ih74 (j + 1) (by omega) (by omega) _ _ _ _ (by rw [maX_f hPi, maY_f hPi]; exact hR) hf hP hD hS (lv_sub hl [0, 1] rfl)
              · have hPi : ¬ G 4 j ≤ 0 := b01_t hrr_18 c87_19
                refine lv_aload_n hx hb dX2_measureAll_90 rfl (lv_at hl 1 rfl) ?_
                refine lv_iload hx hb dX2_measureAll_91 (lv_at hl 0 rfl) ?_
                refine nVv (As := [.int (nI j)]) (rest := _) hx hb hml hown hts hP hK hD hZ hA hS ⟨Nat.zero_le _, Nat.zero_le _⟩ hR.1 rfl (c_addBarToStill l E ad sL_13 b (gu (gu G 9 (maX G j)) 10 (maY G j)) hR j (by omega)) (cwV 1 hts gX2_measureAll_X2_addBarToStill rfl rfl rfl (by decide +kernel) ⟨Nat.le_of_ble_eq_true rfl, Nat.le_of_ble_eq_true rfl⟩) hl.1 rfl (Nat.le_of_ble_eq_true rfl) dX2_measureAll_93 (fun s_24 H locs hq hP hD hS => ?_)
                obtain ⟨hR, hf_23⟩ := hq
                have hf := hf.tr hf_23
                have hR : isR E ad s_24 b sG (gu (gu G 9 (fun q9 => (maX G j) q9 + pull (nI j) ((G 3) j) ((G 4) j) (nI q9) * acr ((G 3) j))) 10 (fun q9 => (maY G j) q9 + pull (nI j) ((G 3) j) ((G 4) j) (nI q9) * dwn ((G 3) j))) := hR.eq (all13 rfl rfl rfl rfl rfl rfl rfl rfl rfl rfl rfl rfl rfl)
                refine lv_iinc (v := nI (j + 1)) (lv' := [(4, .int (nI (j + 1))), (0, .ref (ad b))]) hx hb dX2_measureAll_96 hl (k := 0) rfl (nI_1 _) (by decide) rfl (fun ls hl => ?_)
                refine lv_goto (tgt := 74) hx hb dX2_measureAll_99 (by decide) ?_
                exact ih74 (j + 1) (by omega) (by omega) _ _ _ _ (by rw [← maX_t hPi, ← maY_t hPi]; exact hR) hf hP hD hS (lv_sub hl [0, 1] rfl)
        exact LP_12 (36 + 1) 0 (Nat.zero_le _) (by omega) _ _ _ _ hR hf hP hD hS (lv_sub hl [0, 3] rfl)
      · have hlt : i < 36 := by have := mt (nI_geL (n := 36) (i := i) rfl (by decide) (by omega)).mpr c46_6; omega
        refine lv_aload_n hx hb dX2_measureAll_49 rfl (lv_at hl 3 rfl) ?_
        refine rg (v := .ref (ad (b + 1 + 9))) (T := TX2) (N := 13) (C := RX2) hx hb hts hinX2 hown hK hP hR rfl 9 (by decide) (hts (.fieldLink RX2 31 "NeedleGrid$Grid" "stillX" "[I") (by decide +kernel)) rfl dX2_measureAll_50 ?_
        refine lv_iload hx hb dX2_measureAll_53 (lv_at hl 0 rfl) ?_
        refine lv_iload_n hx hb dX2_measureAll_55 rfl (lv_at hl 2 rfl) ?_
        refine rs (j := i) (n := 36) (x := x2_21) hx hb hK hP hD hS hR 9 rfl (by decide) (by omega) (by decide) dX2_measureAll_56 (fun s_26 H locs hR hf_27 hP hD hS => ?_)
        have hf := hf.tr hf_27
        have hR : isR E ad s_26 b sG (gu (gu G 10 (fil (fun _ => x3_38) (G 10) i)) 9 (upd (fil (fun _ => x2_21) (G 9) i) i x2_21)) := hR.eq (all13 rfl rfl rfl rfl rfl rfl rfl rfl rfl rfl rfl rfl rfl)
        refine lv_aload_n hx hb dX2_measureAll_57 rfl (lv_at hl 3 rfl) ?_
        refine rg (v := .ref (ad (b + 1 + 10))) (T := TX2) (N := 13) (C := RX2) hx hb hts hinX2 hown hK hP hR rfl 10 (by decide) (hts (.fieldLink RX2 34 "NeedleGrid$Grid" "stillY" "[I") (by decide +kernel)) rfl dX2_measureAll_58 ?_
        refine lv_iload hx hb dX2_measureAll_61 (lv_at hl 0 rfl) ?_
        refine lv_iload_n hx hb dX2_measureAll_63 rfl (lv_at hl 1 rfl) ?_
        refine rs (j := i) (n := 36) (x := x3_38) hx hb hK hP hD hS hR 10 rfl (by decide) (by omega) (by decide) dX2_measureAll_64 (fun s_28 H locs hR hf_29 hP hD hS => ?_)
        have hf := hf.tr hf_29
        have hR : isR E ad s_28 b sG (gu (gu G 9 (upd (fil (fun _ => x2_21) (G 9) i) i x2_21)) 10 (upd (fil (fun _ => x3_38) (G 10) i) i x3_38)) := hR.eq (all13 rfl rfl rfl rfl rfl rfl rfl rfl rfl rfl rfl rfl rfl)
        refine lv_iinc (v := nI (i + 1)) (lv' := [(4, .int (nI (i + 1))), (3, .int x3_38), (2, .int x2_21), (0, .ref (ad b))]) hx hb dX2_measureAll_65 hl (k := 0) rfl (nI_1 _) (by decide) rfl (fun ls hl => ?_)
        refine lv_goto (tgt := 42) hx hb dX2_measureAll_68 (by decide) ?_
        exact ih42 (i + 1) (by omega) (by omega) _ _ _ _ (by rw [← fil_s, ← fil_s]; exact hR) hf hP hD hS (lv_sub hl [0, 1, 2, 3] rfl)
  exact LP_5 (36 + 1) 0 (Nat.zero_le _) (by omega) _ _ _ _ (by rw [fil_0, fil_0, gu_id, gu_id]; exact hR) hf hP hD hS (lv_sub hl [0, 1, 2, 4] rfl)


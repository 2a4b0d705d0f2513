set_option maxHeartbeats 4000000 in
set_option maxRecDepth 100000 in
theorem c_hasBar (l : Launch) (E : NE) (ad : Nat → Nat) (st : NW) (b : Nat) (G : Nat → Nat → Int32) (hR : isR E ad st b sG G) (c : Nat) (hc : c < 36) : nMi l yX2_hasBar wsX2_hasBar (nRm 0 0) E ad st [.ref (ad b), .int (nI c)] (fun r s1 => r = (if G 4 c ≤ 0 then 0 else 1) ∧ st = s1) := by
  refine nSz (cc := cX2_hasBar) (maxL := 2) (by decide) rfl (Nat.le_of_ble_eq_true rfl) ?_
  intro pg en s mi ar bw mth cd R Q A ls hx hb hml hown hts hRm hP hK hD hZ hA hl hret
  subst hRm
  have hown : s.vm.findClass RX2 = some mi.cls := hown
  have hS : va_S A s.heap s.heap [] := va_S.rf
  have hl : lv_has ls 2 [(0, .ref (ad b)), (1, .int (nI c))] := hl
  have hinX2 : ∀ w ∈ wsX20, w ∈ wsX2_hasBar := by decide +kernel
  refine lv_aload_n hx hb dX2_hasBar_0 rfl (lv_at hl 0 rfl) ?_
  refine rg (v := .ref (ad (b + 1 + 4))) (T := TX2) (N := 13) (C := RX2) hx hb hts hinX2 hown hK hP hR rfl 4 (by decide) (hts (.fieldLink RX2 25 "NeedleGrid$Grid" "barStrengths" "[I") (by decide +kernel)) rfl dX2_hasBar_1 ?_
  refine lv_iload_n hx hb dX2_hasBar_4 rfl (lv_at hl 1 rfl) ?_
  refine ra (j := c) (n := 36) hx hb hK hP hR 4 rfl (by omega) (by decide) dX2_hasBar_5 ?_
  refine lv_if_le (tgt := 13) hx hb dX2_hasBar_6 (by decide) (fun c6_0 => ?_) (fun c6_0 => ?_)
  · refine lv_iconst (v := 0) hx hb dX2_hasBar_13 (by decide) ?_
    exact hret _ _ _ _ _ _ hP hD hS (⟨by simp only [if_pos c6_0], rfl⟩) (by first | exact Or.inl rfl | exact Or.inr rfl | assumption) dX2_hasBar_14
  · refine lv_iconst (v := 1) hx hb dX2_hasBar_9 (by decide) ?_
    refine lv_goto (tgt := 14) hx hb dX2_hasBar_10 (by decide) ?_
    exact hret _ _ _ _ _ _ hP hD hS (⟨by simp only [if_neg c6_0], rfl⟩) (by first | exact Or.inl rfl | exact Or.inr rfl | assumption) dX2_hasBar_14

set_option maxHeartbeats 4000000 in
set_option maxRecDepth 100000 in
theorem c_aim (l : Launch) (E : NE) (ad : Nat → Nat) (st : NW) (b : Nat) (G : Nat → Nat → Int32) (hR : isR E ad st b sG G) (c : Nat) (hc : c < 36) : nMi l yX2_aim wsX2_aim (nRm 1 23) E ad st [.ref (ad b), .int (nI c)] (fun r s1 => r = gAim G c ∧ st = s1) := by
  refine nSi (cc := cX2_aim) (maxL := 2) (by decide) rfl (Nat.le_of_ble_eq_true rfl) ?_
  intro pg en s mi ar bw mth cd R Q A ls hx hb hml hown hts hRm hP hK hD hZ hA hl hret
  subst hRm
  have hown : s.vm.findClass RX2 = some mi.cls := hown
  have hS : va_S A s.heap s.heap [] := va_S.rf
  have hl : lv_has ls 2 [(0, .ref (ad b)), (1, .int (nI c))] := hl
  have hinX2 : ∀ w ∈ wsX20, w ∈ wsX2_aim := by decide +kernel
  refine lv_aload_n hx hb dX2_aim_0 rfl (lv_at hl 0 rfl) ?_
  refine rg (v := .ref (ad (b + 1 + 11))) (T := TX2) (N := 13) (C := RX2) hx hb hts hinX2 hown hK hP hR rfl 11 (by decide) (hts (.fieldLink RX2 37 "NeedleGrid$Grid" "fieldX" "[I") (by decide +kernel)) rfl dX2_aim_1 ?_
  refine lv_iload_n hx hb dX2_aim_4 rfl (lv_at hl 1 rfl) ?_
  refine ra (j := c) (n := 36) hx hb hK hP hR 11 rfl (by omega) (by decide) dX2_aim_5 ?_
  refine lv_aload_n hx hb dX2_aim_6 rfl (lv_at hl 0 rfl) ?_
  refine rg (v := .ref (ad (b + 1 + 12))) (T := TX2) (N := 13) (C := RX2) hx hb hts hinX2 hown hK hP hR rfl 12 (by decide) (hts (.fieldLink RX2 40 "NeedleGrid$Grid" "fieldY" "[I") (by decide +kernel)) rfl dX2_aim_7 ?_
  refine lv_iload_n hx hb dX2_aim_10 rfl (lv_at hl 1 rfl) ?_
  refine ra (j := c) (n := 36) hx hb hK hP hR 12 rfl (by omega) (by decide) dX2_aim_11 ?_
  refine nNi (As := [.int (G 11 c), .int (G 12 c)]) (rest := _) hx hb hml hown hts hP hK hD hZ hA hS ⟨Nat.zero_le _, Nat.zero_le _⟩ (c_aimOf l E ad st (G 11 c) (G 12 c)) ⟨va_cnB 2 hts gX2_aim_X4_aimOf_n85 rfl rfl rfl (nlM_X2_85 hZ) (hts (.initialized RX4) (by decide +kernel)) (by decide +kernel) ⟨Nat.le_of_ble_eq_true rfl, Nat.le_of_ble_eq_true rfl⟩, hts (.static yX4_aimOf) (by decide +kernel), trivial⟩ hl.1 rfl (Nat.le_of_ble_eq_true rfl) dX2_aim_12 (fun r_1 s_2 H locs hq hP hD hS => ?_)
  obtain ⟨rfl, rfl⟩ := hq
  exact hret _ _ _ _ _ _ hP hD hS (⟨rfl, rfl⟩) dX2_aim_15

set_option maxHeartbeats 4000000 in
set_option maxRecDepth 100000 in
theorem c_awayFromAim (l : Launch) (E : NE) (ad : Nat → Nat) (st : NW) (b : Nat) (G : Nat → Nat → Int32) (hR : isR E ad st b sG G) (c : Nat) (hc : c < 36) : nMi l yX2_awayFromAim wsX2_awayFromAim (nRm 2 44) E ad st [.ref (ad b), .int (nI c)] (fun r s1 => r = gAw G c ∧ st = s1) := by
  refine nSi (cc := cX2_awayFromAim) (maxL := 4) (by decide) rfl (Nat.le_of_ble_eq_true rfl) ?_
  intro pg en s mi ar bw mth cd R Q A ls hx hb hml hown hts hRm hP hK hD hZ hA hl hret
  subst hRm
  have hown : s.vm.findClass RX2 = some mi.cls := hown
  have hS : va_S A s.heap s.heap [] := va_S.rf
  have hl : lv_has ls 4 [(0, .ref (ad b)), (1, .int (nI c))] := hl
  have hinX2 : ∀ w ∈ wsX20, w ∈ wsX2_awayFromAim := by decide +kernel
  refine lv_aload_n hx hb dX2_awayFromAim_0 rfl (lv_at hl 0 rfl) ?_
  refine lv_iload_n hx hb dX2_awayFromAim_1 rfl (lv_at hl 1 rfl) ?_
  refine nVi (As := [.int (nI c)]) (rest := _) hx hb hml hown hts hP hK hD hZ hA hS ⟨Nat.zero_le _, Nat.zero_le _⟩ hR.1 rfl (c_aim l E ad st b G hR c (by omega)) (cwV 1 hts gX2_awayFromAim_X2_aim rfl rfl rfl (by decide +kernel) ⟨Nat.le_of_ble_eq_true rfl, Nat.le_of_ble_eq_true rfl⟩) hl.1 rfl (Nat.le_of_ble_eq_true rfl) dX2_awayFromAim_2 (fun r_1 s_2 H locs hq hP hD hS => ?_)
  obtain ⟨hrr_1, rfl⟩ := hq
  refine lv_istore_n (lv' := [(2, .int r_1), (0, .ref (ad b)), (1, .int (nI c))]) hx hb dX2_awayFromAim_5 rfl hl (by decide) rfl (fun ls hl => ?_)
  refine lv_iload_n hx hb dX2_awayFromAim_6 rfl (lv_at hl 0 rfl) ?_
  refine lv_iconst (v := -1) hx hb dX2_awayFromAim_7 (by decide) ?_
  refine lv_icmp_ne (tgt := 13) hx hb dX2_awayFromAim_8 (by decide) (fun c8_2 => ?_) (fun c8_2 => ?_)
  · refine lv_aload_n hx hb dX2_awayFromAim_13 rfl (lv_at hl 1 rfl) ?_
    refine rg (v := .ref (ad (b + 1 + 0))) (T := TX2) (N := 13) (C := RX2) hx hb hts hinX2 hown hK hP hR rfl 0 (by decide) (hts (.fieldLink RX2 9 "NeedleGrid$Grid" "directions" "[I") (by decide +kernel)) rfl dX2_awayFromAim_14 ?_
    refine lv_iload_n hx hb dX2_awayFromAim_17 rfl (lv_at hl 2 rfl) ?_
    refine ra (j := c) (n := 36) hx hb hK hP hR 0 rfl (by omega) (by decide) dX2_awayFromAim_18 ?_
    refine lv_iload_n hx hb dX2_awayFromAim_19 rfl (lv_at hl 0 rfl) ?_
    refine nNi (As := [.int (G 0 c), .int r_1]) (rest := _) hx hb hml hown hts hP hK hD hZ hA hS ⟨Nat.zero_le _, Nat.zero_le _⟩ (c_ahead l E ad st (G 0 c) r_1) ⟨va_cnB 2 hts gX2_awayFromAim_X4_ahead_n92 rfl rfl rfl (nlM_X2_92 hZ) (hts (.initialized RX4) (by decide +kernel)) (by decide +kernel) ⟨Nat.le_of_ble_eq_true rfl, Nat.le_of_ble_eq_true rfl⟩, hts (.static yX4_ahead) (by decide +kernel), trivial⟩ hl.1 rfl (Nat.le_of_ble_eq_true rfl) dX2_awayFromAim_20 (fun r_4 s_5 H locs hq hP hD hS => ?_)
    obtain ⟨rfl, rfl⟩ := hq
    refine lv_topi (fun x3_23 ex3_23 => ?_)
    refine lv_istore_n (lv' := [(3, .int x3_23), (2, .int r_1), (0, .ref (ad b)), (1, .int (nI c))]) hx hb dX2_awayFromAim_23 rfl hl (by decide) rfl (fun ls hl => ?_)
    refine lv_iload_n hx hb dX2_awayFromAim_24 rfl (lv_at hl 0 rfl) ?_
    refine lv_iconst (v := 4) hx hb dX2_awayFromAim_25 (by decide) ?_
    refine lv_icmp_gt (tgt := 33) hx hb dX2_awayFromAim_26 (by decide) (fun c26_5 => ?_) (fun c26_5 => ?_)
    · refine lv_bipush (v := 8) hx hb dX2_awayFromAim_33 (by decide) ?_
      refine lv_iload_n hx hb dX2_awayFromAim_35 rfl (lv_at hl 0 rfl) ?_
      refine lv_isub hx hb dX2_awayFromAim_36 ?_
      exact hret _ _ _ _ _ _ hP hD hS (⟨by subst hrr_1 ex3_23; delta gAw awayI; simp only [if_neg c8_2, if_pos c26_5], rfl⟩) dX2_awayFromAim_37
    · refine lv_iload_n hx hb dX2_awayFromAim_29 rfl (lv_at hl 0 rfl) ?_
      refine lv_goto (tgt := 37) hx hb dX2_awayFromAim_30 (by decide) ?_
      exact hret _ _ _ _ _ _ hP hD hS (⟨by subst hrr_1 ex3_23; delta gAw awayI; simp only [if_neg c8_2, if_neg c26_5], rfl⟩) dX2_awayFromAim_37
  · refine lv_iconst (v := -1) hx hb dX2_awayFromAim_11 (by decide) ?_
    exact hret _ _ _ _ _ _ hP hD hS (⟨by subst hrr_1; delta gAw awayI; simp only [if_pos c8_2], rfl⟩) dX2_awayFromAim_12

set_option maxHeartbeats 4000000 in
set_option maxRecDepth 100000 in
theorem c_directionAfterStep (l : Launch) (E : NE) (ad : Nat → Nat) (st : NW) (b : Nat) (G : Nat → Nat → Int32) (hR : isR E ad st b sG G) (c : Nat) (hc : c < 36) : nMi l yX2_directionAfterStep wsX2_directionAfterStep (nRm 1 23) E ad st [.ref (ad b), .int (nI c)] (fun r s1 => r = gT G c ∧ st = s1) := by
  refine nSi (cc := cX2_directionAfterStep) (maxL := 8) (by decide) rfl (Nat.le_of_ble_eq_true rfl) ?_
  intro pg en s mi ar bw mth cd R Q A ls hx hb hml hown hts hRm hP hK hD hZ hA hl hret
  subst hRm
  have hown : s.vm.findClass RX2 = some mi.cls := hown
  have hS : va_S A s.heap s.heap [] := va_S.rf
  have hl : lv_has ls 8 [(0, .ref (ad b)), (1, .int (nI c))] := hl
  have hinX2 : ∀ w ∈ wsX20, w ∈ wsX2_directionAfterStep := by decide +kernel
  refine lv_aload_n hx hb dX2_directionAfterStep_0 rfl (lv_at hl 0 rfl) ?_
  refine rg (v := .ref (ad (b + 1 + 0))) (T := TX2) (N := 13) (C := RX2) hx hb hts hinX2 hown hK hP hR rfl 0 (by decide) (hts (.fieldLink RX2 9 "NeedleGrid$Grid" "directions" "[I") (by decide +kernel)) rfl dX2_directionAfterStep_1 ?_
  refine lv_iload_n hx hb dX2_directionAfterStep_4 rfl (lv_at hl 1 rfl) ?_
  refine ra (j := c) (n := 36) hx hb hK hP hR 0 rfl (by omega) (by decide) dX2_directionAfterStep_5 ?_
  refine lv_topi (fun x2_6 ex2_6 => ?_)
  refine lv_istore_n (lv' := [(2, .int x2_6), (0, .ref (ad b)), (1, .int (nI c))]) hx hb dX2_directionAfterStep_6 rfl hl (by decide) rfl (fun ls hl => ?_)
  refine lv_aload_n hx hb dX2_directionAfterStep_7 rfl (lv_at hl 1 rfl) ?_
  refine rg (v := .ref (ad (b + 1 + 2))) (T := TX2) (N := 13) (C := RX2) hx hb hts hinX2 hown hK hP hR rfl 2 (by decide) (hts (.fieldLink RX2 18 "NeedleGrid$Grid" "held" "[Z") (by decide +kernel)) rfl dX2_directionAfterStep_8 ?_
  refine lv_iload_n hx hb dX2_directionAfterStep_11 rfl (lv_at hl 2 rfl) ?_
  refine raZ (j := c) (n := 36) hx hb hK hP hR 2 rfl (by omega) (by decide) dX2_directionAfterStep_12 ?_
  refine lv_if_eq (tgt := 18) hx hb dX2_directionAfterStep_13 (by decide) (fun c13_0 => ?_) (fun c13_0 => ?_)
  · refine lv_aload_n hx hb dX2_directionAfterStep_18 rfl (lv_at hl 1 rfl) ?_
    refine rg (v := .ref (ad (b + 1 + 11))) (T := TX2) (N := 13) (C := RX2) hx hb hts hinX2 hown hK hP hR rfl 11 (by decide) (hts (.fieldLink RX2 37 "NeedleGrid$Grid" "fieldX" "[I") (by decide +kernel)) rfl dX2_directionAfterStep_19 ?_
    refine lv_iload_n hx hb dX2_directionAfterStep_22 rfl (lv_at hl 2 rfl) ?_
    refine ra (j := c) (n := 36) hx hb hK hP hR 11 rfl (by omega) (by decide) dX2_directionAfterStep_23 ?_
    refine lv_topi (fun x3_24 ex3_24 => ?_)
    refine lv_istore_n (lv' := [(3, .int x3_24), (2, .int x2_6), (0, .ref (ad b)), (1, .int (nI c))]) hx hb dX2_directionAfterStep_24 rfl hl (by decide) rfl (fun ls hl => ?_)
    refine lv_aload_n hx hb dX2_directionAfterStep_25 rfl (lv_at hl 2 rfl) ?_
    refine rg (v := .ref (ad (b + 1 + 12))) (T := TX2) (N := 13) (C := RX2) hx hb hts hinX2 hown hK hP hR rfl 12 (by decide) (hts (.fieldLink RX2 40 "NeedleGrid$Grid" "fieldY" "[I") (by decide +kernel)) rfl dX2_directionAfterStep_26 ?_
    refine lv_iload_n hx hb dX2_directionAfterStep_29 rfl (lv_at hl 3 rfl) ?_
    refine ra (j := c) (n := 36) hx hb hK hP hR 12 rfl (by omega) (by decide) dX2_directionAfterStep_30 ?_
    refine lv_topi (fun x4_31 ex4_31 => ?_)
    refine lv_istore (lv' := [(4, .int x4_31), (3, .int x3_24), (2, .int x2_6), (0, .ref (ad b)), (1, .int (nI c))]) hx hb dX2_directionAfterStep_31 hl (by decide) rfl (fun ls hl => ?_)
    refine lv_iload_n hx hb dX2_directionAfterStep_33 rfl (lv_at hl 1 rfl) ?_
    refine lv_iload hx hb dX2_directionAfterStep_34 (lv_at hl 0 rfl) ?_
    refine nNi (As := [.int x3_24, .int x4_31]) (rest := _) hx hb hml hown hts hP hK hD hZ hA hS ⟨Nat.zero_le _, Nat.zero_le _⟩ (c_aimOf l E ad st x3_24 x4_31) ⟨va_cnB 2 hts gX2_directionAfterStep_X4_aimOf_n85 rfl rfl rfl (nlM_X2_85 hZ) (hts (.initialized RX4) (by decide +kernel)) (by decide +kernel) ⟨Nat.le_of_ble_eq_true rfl, Nat.le_of_ble_eq_true rfl⟩, hts (.static yX4_aimOf) (by decide +kernel), trivial⟩ hl.1 rfl (Nat.le_of_ble_eq_true rfl) dX2_directionAfterStep_36 (fun r_2 s_3 H locs hq hP hD hS => ?_)
    obtain ⟨rfl, rfl⟩ := hq
    refine lv_topi (fun x5_39 ex5_39 => ?_)
    refine lv_istore (lv' := [(5, .int x5_39), (4, .int x4_31), (3, .int x3_24), (2, .int x2_6), (0, .ref (ad b)), (1, .int (nI c))]) hx hb dX2_directionAfterStep_39 hl (by decide) rfl (fun ls hl => ?_)
    have J_4 : ∀ v_5 : Int32, v_5 = ab x3_24 → W pg l en (nRm 1 23) s mi ar bw mth cd H locs 0 0 Q (F0 mi 51 ls [.int v_5]) := by
      intro v_5 ev_5
      have J_6 : ∀ v_7 : Int32, v_7 = ab x4_31 → W pg l en (nRm 1 23) s mi ar bw mth cd H locs 0 0 Q (F0 mi 64 ls [.int v_7, .int v_5]) := by
        intro v_7 ev_7
        refine lv_iadd hx hb dX2_directionAfterStep_64 ?_
        refine lv_topi (fun x6_65 ex6_65 => ?_)
        refine lv_istore (lv' := [(6, .int x6_65), (5, .int x5_39), (4, .int x4_31), (3, .int x3_24), (2, .int x2_6), (0, .ref (ad b)), (1, .int (nI c))]) hx hb dX2_directionAfterStep_65 hl (by decide) rfl (fun ls hl => ?_)
        refine lv_iload hx hb dX2_directionAfterStep_67 (lv_at hl 1 rfl) ?_
        refine lv_iconst (v := -1) hx hb dX2_directionAfterStep_69 (by decide) ?_
        refine lv_icmp_eq (tgt := 90) hx hb dX2_directionAfterStep_70 (by decide) (fun c70_7 => ?_) (fun c70_7 => ?_)
        · refine lv_iload_n hx hb dX2_directionAfterStep_90 rfl (lv_at hl 4 rfl) ?_
          exact hret _ _ _ _ _ _ hP hD hS (⟨by subst ex2_6 ex3_24 ex4_31 ex5_39 ev_5 ev_7 ex6_65; delta gT dAS; simp only [if_pos c13_0, if_pos c70_7], rfl⟩) dX2_directionAfterStep_91
        · refine lv_iload hx hb dX2_directionAfterStep_73 (lv_at hl 1 rfl) ?_
          refine lv_iload_n hx hb dX2_directionAfterStep_75 rfl (lv_at hl 4 rfl) ?_
          refine lv_icmp_eq (tgt := 90) hx hb dX2_directionAfterStep_76 (by decide) (fun c76_8 => ?_) (fun c76_8 => ?_)
          · refine lv_iload_n hx hb dX2_directionAfterStep_90 rfl (lv_at hl 4 rfl) ?_
            exact hret _ _ _ _ _ _ hP hD hS (⟨by subst ex2_6 ex3_24 ex4_31 ex5_39 ev_5 ev_7 ex6_65; delta gT dAS; simp only [if_pos c13_0, if_neg c70_7, if_pos c76_8], rfl⟩) dX2_directionAfterStep_91
          · refine lv_iload hx hb dX2_directionAfterStep_79 (lv_at hl 0 rfl) ?_
            refine lv_aload_n hx hb dX2_directionAfterStep_81 rfl (lv_at hl 5 rfl) ?_
            refine rg (v := .ref (ad (b + 1 + 1))) (T := TX2) (N := 13) (C := RX2) hx hb hts hinX2 hown hK hP hR rfl 1 (by decide) (hts (.fieldLink RX2 15 "NeedleGrid$Grid" "frictions" "[I") (by decide +kernel)) rfl dX2_directionAfterStep_82 ?_
            refine lv_iload_n hx hb dX2_directionAfterStep_85 rfl (lv_at hl 6 rfl) ?_
            refine ra (j := c) (n := 36) hx hb hK hP hR 1 rfl (by omega) (by decide) dX2_directionAfterStep_86 ?_
            refine lv_icmp_gt (tgt := 92) hx hb dX2_directionAfterStep_87 (by decide) (fun c87_9 => ?_) (fun c87_9 => ?_)
            · refine lv_iload_n hx hb dX2_directionAfterStep_92 rfl (lv_at hl 4 rfl) ?_
              refine lv_iload hx hb dX2_directionAfterStep_93 (lv_at hl 1 rfl) ?_
              refine nNi (As := [.int x2_6, .int x5_39]) (rest := _) hx hb hml hown hts hP hK hD hZ hA hS ⟨Nat.zero_le _, Nat.zero_le _⟩ (c_ahead l E ad st x2_6 x5_39) ⟨va_cnB 2 hts gX2_directionAfterStep_X4_ahead_n92 rfl rfl rfl (nlM_X2_92 hZ) (hts (.initialized RX4) (by decide +kernel)) (by decide +kernel) ⟨Nat.le_of_ble_eq_true rfl, Nat.le_of_ble_eq_true rfl⟩, hts (.static yX4_ahead) (by decide +kernel), trivial⟩ hl.1 rfl (Nat.le_of_ble_eq_true rfl) dX2_directionAfterStep_95 (fun r_11 s_12 H locs hq hP hD hS => ?_)
              obtain ⟨rfl, rfl⟩ := hq
              refine lv_iconst (v := 4) hx hb dX2_directionAfterStep_98 (by decide) ?_
              refine lv_icmp_gt (tgt := 106) hx hb dX2_directionAfterStep_99 (by decide) (fun c99_12 => ?_) (fun c99_12 => ?_)
              · refine lv_iconst (v := -1) hx hb dX2_directionAfterStep_106 (by decide) ?_
                refine lv_istore (lv' := [(7, .int (-1)), (6, .int x6_65), (5, .int x5_39), (4, .int x4_31), (3, .int x3_24), (2, .int x2_6), (0, .ref (ad b)), (1, .int (nI c))]) hx hb dX2_directionAfterStep_107 hl (by decide) rfl (fun ls hl => ?_)
                refine lv_iload_n hx hb dX2_directionAfterStep_109 rfl (lv_at hl 5 rfl) ?_
                refine lv_iload hx hb dX2_directionAfterStep_110 (lv_at hl 0 rfl) ?_
                refine lv_iadd hx hb dX2_directionAfterStep_112 ?_
                refine lv_bipush (v := 7) hx hb dX2_directionAfterStep_113 (by decide) ?_
                refine lv_iand hx hb dX2_directionAfterStep_115 ?_
                exact hret _ _ _ _ _ _ hP hD hS (⟨by subst ex2_6 ex3_24 ex4_31 ex5_39 ev_5 ev_7 ex6_65; delta gT dAS; simp only [if_pos c13_0, if_neg c70_7, if_neg c76_8, if_pos c87_9, if_pos c99_12], rfl⟩) dX2_directionAfterStep_116
              · refine lv_iconst (v := 1) hx hb dX2_directionAfterStep_102 (by decide) ?_
                refine lv_goto (tgt := 107) hx hb dX2_directionAfterStep_103 (by decide) ?_
                refine lv_istore (lv' := [(7, .int 1), (6, .int x6_65), (5, .int x5_39), (4, .int x4_31), (3, .int x3_24), (2, .int x2_6), (0, .ref (ad b)), (1, .int (nI c))]) hx hb dX2_directionAfterStep_107 hl (by decide) rfl (fun ls hl => ?_)
                refine lv_iload_n hx hb dX2_directionAfterStep_109 rfl (lv_at hl 5 rfl) ?_
                refine lv_iload hx hb dX2_directionAfterStep_110 (lv_at hl 0 rfl) ?_
                refine lv_iadd hx hb dX2_directionAfterStep_112 ?_
                refine lv_bipush (v := 7) hx hb dX2_directionAfterStep_113 (by decide) ?_
                refine lv_iand hx hb dX2_directionAfterStep_115 ?_
                exact hret _ _ _ _ _ _ hP hD hS (⟨by subst ex2_6 ex3_24 ex4_31 ex5_39 ev_5 ev_7 ex6_65; delta gT dAS; simp only [if_pos c13_0, if_neg c70_7, if_neg c76_8, if_pos c87_9, if_neg c99_12], rfl⟩) dX2_directionAfterStep_116
            · refine lv_iload_n hx hb dX2_directionAfterStep_90 rfl (lv_at hl 4 rfl) ?_
              exact hret _ _ _ _ _ _ hP hD hS (⟨by subst ex2_6 ex3_24 ex4_31 ex5_39 ev_5 ev_7 ex6_65; delta gT dAS; simp only [if_pos c13_0, if_neg c70_7, if_neg c76_8, if_neg c87_9], rfl⟩) dX2_directionAfterStep_91
      refine lv_iload hx hb dX2_directionAfterStep_51 (lv_at hl 1 rfl) ?_
      refine lv_if_ge (tgt := 62) hx hb dX2_directionAfterStep_53 (by decide) (fun c53_13 => ?_) (fun c53_13 => ?_)
      · refine lv_iload hx hb dX2_directionAfterStep_62 (lv_at hl 1 rfl) ?_
        exact J_6 _ (by first | exact (ab_ge (by assumption)).symm | exact (ab_nge (by assumption)).symm)
      · refine lv_iload hx hb dX2_directionAfterStep_56 (lv_at hl 1 rfl) ?_
        refine lv_ineg hx hb dX2_directionAfterStep_58 ?_
        refine lv_goto (tgt := 64) hx hb dX2_directionAfterStep_59 (by decide) ?_
        exact J_6 _ (by first | exact (ab_ge (by assumption)).symm | exact (ab_nge (by assumption)).symm)
    refine lv_iload_n hx hb dX2_directionAfterStep_41 rfl (lv_at hl 2 rfl) ?_
    refine lv_if_ge (tgt := 50) hx hb dX2_directionAfterStep_42 (by decide) (fun c42_14 => ?_) (fun c42_14 => ?_)
    · refine lv_iload_n hx hb dX2_directionAfterStep_50 rfl (lv_at hl 2 rfl) ?_
      exact J_4 _ (by first | exact (ab_ge (by assumption)).symm | exact (ab_nge (by assumption)).symm)
    · refine lv_iload_n hx hb dX2_directionAfterStep_45 rfl (lv_at hl 2 rfl) ?_
      refine lv_ineg hx hb dX2_directionAfterStep_46 ?_
      refine lv_goto (tgt := 51) hx hb dX2_directionAfterStep_47 (by decide) ?_
      exact J_4 _ (by first | exact (ab_ge (by assumption)).symm | exact (ab_nge (by assumption)).symm)
  · refine lv_iload_n hx hb dX2_directionAfterStep_16 rfl (lv_at hl 0 rfl) ?_
    exact hret _ _ _ _ _ _ hP hD hS (⟨by subst ex2_6; delta gT dAS; simp only [if_neg c13_0], rfl⟩) dX2_directionAfterStep_17

set_option maxHeartbeats 4000000 in
set_option maxRecDepth 100000 in
theorem c_wouldTurn (l : Launch) (E : NE) (ad : Nat → Nat) (st : NW) (b : Nat) (G : Nat → Nat → Int32) (hR : isR E ad st b sG G) (c : Nat) (hc : c < 36) : nMi l yX2_wouldTurn wsX2_wouldTurn (nRm 2 50) E ad st [.ref (ad b), .int (nI c)] (fun r s1 => r = (if gT G c = G 0 c then 0 else 1) ∧ st = s1) := by
  refine nSz (cc := cX2_wouldTurn) (maxL := 2) (by decide) rfl (Nat.le_of_ble_eq_true rfl) ?_
  intro pg en s mi ar bw mth cd R Q A ls hx hb hml hown hts hRm hP hK hD hZ hA hl hret
  subst hRm
  have hown : s.vm.findClass RX2 = some mi.cls := hown
  have hS : va_S A s.heap s.heap [] := va_S.rf
  have hl : lv_has ls 2 [(0, .ref (ad b)), (1, .int (nI c))] := hl
  have hinX2 : ∀ w ∈ wsX20, w ∈ wsX2_wouldTurn := by decide +kernel
  refine lv_aload_n hx hb dX2_wouldTurn_0 rfl (lv_at hl 0 rfl) ?_
  refine lv_iload_n hx hb dX2_wouldTurn_1 rfl (lv_at hl 1 rfl) ?_
  refine nVi (As := [.int (nI c)]) (rest := _) hx hb hml hown hts hP hK hD hZ hA hS ⟨Nat.zero_le _, Nat.zero_le _⟩ hR.1 rfl (c_directionAfterStep l E ad st b G hR c (by omega)) (cwV 1 hts gX2_wouldTurn_X2_directionAfterStep rfl rfl rfl (by decide +kernel) ⟨Nat.le_of_ble_eq_true rfl, Nat.le_of_ble_eq_true rfl⟩) hl.1 rfl (Nat.le_of_ble_eq_true rfl) dX2_wouldTurn_2 (fun r_1 s_2 H locs hq hP hD hS => ?_)
  obtain ⟨hrr_1, rfl⟩ := hq
  refine lv_aload_n hx hb dX2_wouldTurn_5 rfl (lv_at hl 0 rfl) ?_
  refine rg (v := .ref (ad (b + 1 + 0))) (T := TX2) (N := 13) (C := RX2) hx hb hts hinX2 hown hK hP hR rfl 0 (by decide) (hts (.fieldLink RX2 9 "NeedleGrid$Grid" "directions" "[I") (by decide +kernel)) rfl dX2_wouldTurn_6 ?_
  refine lv_iload_n hx hb dX2_wouldTurn_9 rfl (lv_at hl 1 rfl) ?_
  refine ra (j := c) (n := 36) hx hb hK hP hR 0 rfl (by omega) (by decide) dX2_wouldTurn_10 ?_
  refine lv_icmp_eq (tgt := 18) hx hb dX2_wouldTurn_11 (by decide) (fun c11_2 => ?_) (fun c11_2 => ?_)
  · refine lv_iconst (v := 0) hx hb dX2_wouldTurn_18 (by decide) ?_
    exact hret _ _ _ _ _ _ hP hD hS (⟨by subst hrr_1; simp only [if_pos c11_2], rfl⟩) (by first | exact Or.inl rfl | exact Or.inr rfl | assumption) dX2_wouldTurn_19
  · refine lv_iconst (v := 1) hx hb dX2_wouldTurn_14 (by decide) ?_
    refine lv_goto (tgt := 19) hx hb dX2_wouldTurn_15 (by decide) ?_
    exact hret _ _ _ _ _ _ hP hD hS (⟨by subst hrr_1; simp only [if_neg c11_2], rfl⟩) (by first | exact Or.inl rfl | exact Or.inr rfl | assumption) dX2_wouldTurn_19

set_option maxHeartbeats 4000000 in
set_option maxRecDepth 100000 in
theorem c_barCount (l : Launch) (E : NE) (ad : Nat → Nat) (st : NW) (b : Nat) (G : Nat → Nat → Int32) (hR : isR E ad st b sG G) : nMi l yX2_barCount wsX2_barCount (nRm 1 21) E ad st [.ref (ad b)] (fun r s1 => r = nI (cnI (fun k => isB (G 4) k) 36) ∧ st = s1) := by
  refine nSi (cc := cX2_barCount) (maxL := 3) (by decide) rfl (Nat.le_of_ble_eq_true rfl) ?_
  intro pg en s mi ar bw mth cd R Q A ls hx hb hml hown hts hRm hP hK hD hZ hA hl hret
  subst hRm
  have hown : s.vm.findClass RX2 = some mi.cls := hown
  have hS : va_S A s.heap s.heap [] := va_S.rf
  have hl : lv_has ls 3 [(0, .ref (ad b))] := hl
  have hinX2 : ∀ w ∈ wsX20, w ∈ wsX2_barCount := by decide +kernel
  refine lv_iconst (v := 0) hx hb dX2_barCount_0 (by decide) ?_
  refine lv_istore_n (lv' := [(1, .int 0), (0, .ref (ad b))]) hx hb dX2_barCount_1 rfl hl (by decide) rfl (fun ls hl => ?_)
  refine lv_iconst (v := 0) hx hb dX2_barCount_2 (by decide) ?_
  refine lv_istore_n (lv' := [(2, .int 0), (1, .int 0), (0, .ref (ad b))]) hx hb dX2_barCount_3 rfl hl (by decide) rfl (fun ls hl => ?_)
  have LP_1 : ∀ (k9 i : Nat), i ≤ 36 → 36 - i < k9 → ∀ (H : Heap) (locs : List Loc) (ls : Array Slot), nP E ad st H → nD A ad st → va_S A s.heap H locs → lv_has ls 3 [(1, .int (nI (cnI (fun k => isB (G 4) k) i))), (2, .int (nI i)), (0, .ref (ad b))] → W pg l en (nRm 1 21) s mi ar bw mth cd H locs 0 0 Q (F0 mi 4 ls []) := by
    intro k9
    induction k9 with
    | zero => intro i _ h9; exact absurd h9 (Nat.not_lt_zero _)
    | succ k9 ih4 =>
      intro i hi hk9 H locs ls  hP hD hS hl
      refine lv_iload_n hx hb dX2_barCount_4 rfl (lv_at hl 1 rfl) ?_
      refine lv_bipush (v := 36) hx hb dX2_barCount_5 (by decide) ?_
      refine lv_icmp_ge (tgt := 27) hx hb dX2_barCount_7 (by decide) (fun c7_1 => ?_) (fun c7_1 => ?_)
      · have h36 : 36 ≤ i := (nI_geL (n := 36) rfl (by decide) (by omega)).mp c7_1
        obtain rfl : i = 36 := by omega
        refine lv_iload_n hx hb dX2_barCount_27 rfl (lv_at hl 0 rfl) ?_
        exact hret _ _ _ _ _ _ hP hD hS (⟨rfl, rfl⟩) dX2_barCount_28
      · have hlt : i < 36 := by have := mt (nI_geL (n := 36) (i := i) rfl (by decide) (by omega)).mpr c7_1; omega
        refine lv_aload_n hx hb dX2_barCount_10 rfl (lv_at hl 2 rfl) ?_
        refine lv_iload_n hx hb dX2_barCount_11 rfl (lv_at hl 1 rfl) ?_
        refine nVi (As := [.int (nI i)]) (rest := _) hx hb hml hown hts hP hK hD hZ hA hS ⟨Nat.zero_le _, Nat.zero_le _⟩ hR.1 rfl (c_hasBar l E ad st b G hR i (by omega)) (cwV 1 hts gX2_barCount_X2_hasBar rfl rfl rfl (by decide +kernel) ⟨Nat.le_of_ble_eq_true rfl, Nat.le_of_ble_eq_true rfl⟩) hl.1 rfl (Nat.le_of_ble_eq_true rfl) dX2_barCount_12 (fun r_3 s_4 H locs hq hP hD hS => ?_)
        obtain ⟨hrr_3, rfl⟩ := hq
        refine lv_if_eq (tgt := 21) hx hb dX2_barCount_15 (by decide) (fun c15_4 => ?_) (fun c15_4 => ?_)
        · have hPi : (fun k => isB (G 4) k) i = false := by simp [isB, b01_f hrr_3 c15_4]
          refine lv_iinc (v := nI (i + 1)) (lv' := [(2, .int (nI (i + 1))), (1, .int (nI (cnI (fun k => isB (G 4) k) i))), (0, .ref (ad b))]) hx hb dX2_barCount_21 hl (k := 1) rfl (nI_1 _) (by decide) rfl (fun ls hl => ?_)
          refine lv_goto (tgt := 4) hx hb dX2_barCount_24 (by decide) ?_
          exact ih4 (i + 1) (by omega) (by omega) _ _ _  hP hD hS (by rw [cnI_f hPi]; exact lv_sub hl [1, 0, 2] rfl)
        · have hPi : (fun k => isB (G 4) k) i = true := by simp [isB, b01_t hrr_3 c15_4]
          refine lv_iinc (v := nI ((cnI (fun k => isB (G 4) k) i) + 1)) (lv' := [(1, .int (nI ((cnI (fun k => isB (G 4) k) i) + 1))), (2, .int (nI i)), (0, .ref (ad b))]) hx hb dX2_barCount_18 hl (k := 0) rfl (nI_1 _) (by decide) rfl (fun ls hl => ?_)
          refine lv_iinc (v := nI (i + 1)) (lv' := [(2, .int (nI (i + 1))), (1, .int (nI ((cnI (fun k => isB (G 4) k) i) + 1))), (0, .ref (ad b))]) hx hb dX2_barCount_21 hl (k := 1) rfl (nI_1 _) (by decide) rfl (fun ls hl => ?_)
          refine lv_goto (tgt := 4) hx hb dX2_barCount_24 (by decide) ?_
          exact ih4 (i + 1) (by omega) (by omega) _ _ _  hP hD hS (by rw [cnI_t hPi]; exact lv_sub hl [1, 0, 2] rfl)
  exact LP_1 (36 + 1) 0 (Nat.zero_le _) (by omega) _ _ _  hP hD hS (lv_sub hl [1, 0, 2] rfl)

set_option maxHeartbeats 4000000 in
set_option maxRecDepth 100000 in
theorem c_heldCount (l : Launch) (E : NE) (ad : Nat → Nat) (st : NW) (b : Nat) (G : Nat → Nat → Int32) (hR : isR E ad st b sG G) : nMi l yX2_heldCount wsX2_heldCount (nRm 0 0) E ad st [.ref (ad b)] (fun r s1 => r = nI (cnI (fun k => !decide (G 2 k = 0)) 36) ∧ st = s1) := by
  refine nSi (cc := cX2_heldCount) (maxL := 3) (by decide) rfl (Nat.le_of_ble_eq_true rfl) ?_
  intro pg en s mi ar bw mth cd R Q A ls hx hb hml hown hts hRm hP hK hD hZ hA hl hret
  subst hRm
  have hown : s.vm.findClass RX2 = some mi.cls := hown
  have hS : va_S A s.heap s.heap [] := va_S.rf
  have hl : lv_has ls 3 [(0, .ref (ad b))] := hl
  have hinX2 : ∀ w ∈ wsX20, w ∈ wsX2_heldCount := by decide +kernel
  refine lv_iconst (v := 0) hx hb dX2_heldCount_0 (by decide) ?_
  refine lv_istore_n (lv' := [(1, .int 0), (0, .ref (ad b))]) hx hb dX2_heldCount_1 rfl hl (by decide) rfl (fun ls hl => ?_)
  refine lv_iconst (v := 0) hx hb dX2_heldCount_2 (by decide) ?_
  refine lv_istore_n (lv' := [(2, .int 0), (1, .int 0), (0, .ref (ad b))]) hx hb dX2_heldCount_3 rfl hl (by decide) rfl (fun ls hl => ?_)
  have LP_1 : ∀ (k9 i : Nat), i ≤ 36 → 36 - i < k9 → ∀ (H : Heap) (locs : List Loc) (ls : Array Slot), nP E ad st H → nD A ad st → va_S A s.heap H locs → lv_has ls 3 [(1, .int (nI (cnI (fun k => !decide (G 2 k = 0)) i))), (2, .int (nI i)), (0, .ref (ad b))] → W pg l en (nRm 0 0) s mi ar bw mth cd H locs 0 0 Q (F0 mi 4 ls []) := by
    intro k9
    induction k9 with
    | zero => intro i _ h9; exact absurd h9 (Nat.not_lt_zero _)
    | succ k9 ih4 =>
      intro i hi hk9 H locs ls  hP hD hS hl
      refine lv_iload_n hx hb dX2_heldCount_4 rfl (lv_at hl 1 rfl) ?_
      refine lv_bipush (v := 36) hx hb dX2_heldCount_5 (by decide) ?_
      refine lv_icmp_ge (tgt := 28) hx hb dX2_heldCount_7 (by decide) (fun c7_1 => ?_) (fun c7_1 => ?_)
      · have h36 : 36 ≤ i := (nI_geL (n := 36) rfl (by decide) (by omega)).mp c7_1
        obtain rfl : i = 36 := by omega
        refine lv_iload_n hx hb dX2_heldCount_28 rfl (lv_at hl 0 rfl) ?_
        exact hret _ _ _ _ _ _ hP hD hS (⟨rfl, rfl⟩) dX2_heldCount_29
      · have hlt : i < 36 := by have := mt (nI_geL (n := 36) (i := i) rfl (by decide) (by omega)).mpr c7_1; omega
        refine lv_aload_n hx hb dX2_heldCount_10 rfl (lv_at hl 2 rfl) ?_
        refine rg (v := .ref (ad (b + 1 + 2))) (T := TX2) (N := 13) (C := RX2) hx hb hts hinX2 hown hK hP hR rfl 2 (by decide) (hts (.fieldLink RX2 18 "NeedleGrid$Grid" "held" "[Z") (by decide +kernel)) rfl dX2_heldCount_11 ?_
        refine lv_iload_n hx hb dX2_heldCount_14 rfl (lv_at hl 1 rfl) ?_
        refine raZ (j := i) (n := 36) hx hb hK hP hR 2 rfl (by omega) (by decide) dX2_heldCount_15 ?_
        refine lv_if_eq (tgt := 22) hx hb dX2_heldCount_16 (by decide) (fun c16_2 => ?_) (fun c16_2 => ?_)
        · have hPi : (fun k => !decide (G 2 k = 0)) i = false := by simp [c16_2]
          refine lv_iinc (v := nI (i + 1)) (lv' := [(2, .int (nI (i + 1))), (1, .int (nI (cnI (fun k => !decide (G 2 k = 0)) i))), (0, .ref (ad b))]) hx hb dX2_heldCount_22 hl (k := 1) rfl (nI_1 _) (by decide) rfl (fun ls hl => ?_)
          refine lv_goto (tgt := 4) hx hb dX2_heldCount_25 (by decide) ?_
          exact ih4 (i + 1) (by omega) (by omega) _ _ _  hP hD hS (by rw [cnI_f hPi]; exact lv_sub hl [1, 0, 2] rfl)
        · have hPi : (fun k => !decide (G 2 k = 0)) i = true := by simp [c16_2]
          refine lv_iinc (v := nI ((cnI (fun k => !decide (G 2 k = 0)) i) + 1)) (lv' := [(1, .int (nI ((cnI (fun k => !decide (G 2 k = 0)) i) + 1))), (2, .int (nI i)), (0, .ref (ad b))]) hx hb dX2_heldCount_19 hl (k := 0) rfl (nI_1 _) (by decide) rfl (fun ls hl => ?_)
          refine lv_iinc (v := nI (i + 1)) (lv' := [(2, .int (nI (i + 1))), (1, .int (nI ((cnI (fun k => !decide (G 2 k = 0)) i) + 1))), (0, .ref (ad b))]) hx hb dX2_heldCount_22 hl (k := 1) rfl (nI_1 _) (by decide) rfl (fun ls hl => ?_)
          refine lv_goto (tgt := 4) hx hb dX2_heldCount_25 (by decide) ?_
          exact ih4 (i + 1) (by omega) (by omega) _ _ _  hP hD hS (by rw [cnI_t hPi]; exact lv_sub hl [1, 0, 2] rfl)
  exact LP_1 (36 + 1) 0 (Nat.zero_le _) (by omega) _ _ _  hP hD hS (lv_sub hl [1, 0, 2] rfl)

set_option maxHeartbeats 4000000 in
set_option maxRecDepth 100000 in
theorem c_turningCount (l : Launch) (E : NE) (ad : Nat → Nat) (st : NW) (b : Nat) (G : Nat → Nat → Int32) (hR : isR E ad st b sG G) : nMi l yX2_turningCount wsX2_turningCount (nRm 3 71) E ad st [.ref (ad b)] (fun r s1 => r = nI (cnI (fun k => !decide (gT G k = G 0 k)) 36) ∧ st = s1) := by
  refine nSi (cc := cX2_turningCount) (maxL := 3) (by decide) rfl (Nat.le_of_ble_eq_true rfl) ?_
  intro pg en s mi ar bw mth cd R Q A ls hx hb hml hown hts hRm hP hK hD hZ hA hl hret
  subst hRm
  have hown : s.vm.findClass RX2 = some mi.cls := hown
  have hS : va_S A s.heap s.heap [] := va_S.rf
  have hl : lv_has ls 3 [(0, .ref (ad b))] := hl
  have hinX2 : ∀ w ∈ wsX20, w ∈ wsX2_turningCount := by decide +kernel
  refine lv_iconst (v := 0) hx hb dX2_turningCount_0 (by decide) ?_
  refine lv_istore_n (lv' := [(1, .int 0), (0, .ref (ad b))]) hx hb dX2_turningCount_1 rfl hl (by decide) rfl (fun ls hl => ?_)
  refine lv_iconst (v := 0) hx hb dX2_turningCount_2 (by decide) ?_
  refine lv_istore_n (lv' := [(2, .int 0), (1, .int 0), (0, .ref (ad b))]) hx hb dX2_turningCount_3 rfl hl (by decide) rfl (fun ls hl => ?_)
  have LP_1 : ∀ (k9 i : Nat), i ≤ 36 → 36 - i < k9 → ∀ (H : Heap) (locs : List Loc) (ls : Array Slot), nP E ad st H → nD A ad st → va_S A s.heap H locs → lv_has ls 3 [(1, .int (nI (cnI (fun k => !decide (gT G k = G 0 k)) i))), (2, .int (nI i)), (0, .ref (ad b))] → W pg l en (nRm 3 71) s mi ar bw mth cd H locs 0 0 Q (F0 mi 4 ls []) := by
    intro k9
    induction k9 with
    | zero => intro i _ h9; exact absurd h9 (Nat.not_lt_zero _)
    | succ k9 ih4 =>
      intro i hi hk9 H locs ls  hP hD hS hl
      refine lv_iload_n hx hb dX2_turningCount_4 rfl (lv_at hl 1 rfl) ?_
      refine lv_bipush (v := 36) hx hb dX2_turningCount_5 (by decide) ?_
      refine lv_icmp_ge (tgt := 27) hx hb dX2_turningCount_7 (by decide) (fun c7_1 => ?_) (fun c7_1 => ?_)
      · have h36 : 36 ≤ i := (nI_geL (n := 36) rfl (by decide) (by omega)).mp c7_1
        obtain rfl : i = 36 := by omega
        refine lv_iload_n hx hb dX2_turningCount_27 rfl (lv_at hl 0 rfl) ?_
        exact hret _ _ _ _ _ _ hP hD hS (⟨rfl, rfl⟩) dX2_turningCount_28
      · have hlt : i < 36 := by have := mt (nI_geL (n := 36) (i := i) rfl (by decide) (by omega)).mpr c7_1; omega
        refine lv_aload_n hx hb dX2_turningCount_10 rfl (lv_at hl 2 rfl) ?_
        refine lv_iload_n hx hb dX2_turningCount_11 rfl (lv_at hl 1 rfl) ?_
        refine nVi (As := [.int (nI i)]) (rest := _) hx hb hml hown hts hP hK hD hZ hA hS ⟨Nat.zero_le _, Nat.zero_le _⟩ hR.1 rfl (c_wouldTurn l E ad st b G hR i (by omega)) (cwV 1 hts gX2_turningCount_X2_wouldTurn rfl rfl rfl (by decide +kernel) ⟨Nat.le_of_ble_eq_true rfl, Nat.le_of_ble_eq_true rfl⟩) hl.1 rfl (Nat.le_of_ble_eq_true rfl) dX2_turningCount_12 (fun r_3 s_4 H locs hq hP hD hS => ?_)
        obtain ⟨hrr_3, rfl⟩ := hq
        refine lv_if_eq (tgt := 21) hx hb dX2_turningCount_15 (by decide) (fun c15_4 => ?_) (fun c15_4 => ?_)
        · have hPi : (fun k => !decide (gT G k = G 0 k)) i = false := by simp [b01_f hrr_3 c15_4]
          refine lv_iinc (v := nI (i + 1)) (lv' := [(2, .int (nI (i + 1))), (1, .int (nI (cnI (fun k => !decide (gT G k = G 0 k)) i))), (0, .ref (ad b))]) hx hb dX2_turningCount_21 hl (k := 1) rfl (nI_1 _) (by decide) rfl (fun ls hl => ?_)
          refine lv_goto (tgt := 4) hx hb dX2_turningCount_24 (by decide) ?_
          exact ih4 (i + 1) (by omega) (by omega) _ _ _  hP hD hS (by rw [cnI_f hPi]; exact lv_sub hl [1, 0, 2] rfl)
        · have hPi : (fun k => !decide (gT G k = G 0 k)) i = true := by simp [b01_t hrr_3 c15_4]
          refine lv_iinc (v := nI ((cnI (fun k => !decide (gT G k = G 0 k)) i) + 1)) (lv' := [(1, .int (nI ((cnI (fun k => !decide (gT G k = G 0 k)) i) + 1))), (2, .int (nI i)), (0, .ref (ad b))]) hx hb dX2_turningCount_18 hl (k := 0) rfl (nI_1 _) (by decide) rfl (fun ls hl => ?_)
          refine lv_iinc (v := nI (i + 1)) (lv' := [(2, .int (nI (i + 1))), (1, .int (nI ((cnI (fun k => !decide (gT G k = G 0 k)) i) + 1))), (0, .ref (ad b))]) hx hb dX2_turningCount_21 hl (k := 1) rfl (nI_1 _) (by decide) rfl (fun ls hl => ?_)
          refine lv_goto (tgt := 4) hx hb dX2_turningCount_24 (by decide) ?_
          exact ih4 (i + 1) (by omega) (by omega) _ _ _  hP hD hS (by rw [cnI_t hPi]; exact lv_sub hl [1, 0, 2] rfl)
  exact LP_1 (36 + 1) 0 (Nat.zero_le _) (by omega) _ _ _  hP hD hS (lv_sub hl [1, 0, 2] rfl)

set_option maxHeartbeats 4000000 in
set_option maxRecDepth 100000 in
theorem c_aimedCount (l : Launch) (E : NE) (ad : Nat → Nat) (st : NW) (b : Nat) (G : Nat → Nat → Int32) (hR : isR E ad st b sG G) : nMi l yX2_aimedCount wsX2_aimedCount (nRm 2 44) E ad st [.ref (ad b)] (fun r s1 => r = nI (cnI (fun k => !decide (gAim G k = -1)) 36) ∧ st = s1) := by
  refine nSi (cc := cX2_aimedCount) (maxL := 3) (by decide) rfl (Nat.le_of_ble_eq_true rfl) ?_
  intro pg en s mi ar bw mth cd R Q A ls hx hb hml hown hts hRm hP hK hD hZ hA hl hret
  subst hRm
  have hown : s.vm.findClass RX2 = some mi.cls := hown
  have hS : va_S A s.heap s.heap [] := va_S.rf
  have hl : lv_has ls 3 [(0, .ref (ad b))] := hl
  have hinX2 : ∀ w ∈ wsX20, w ∈ wsX2_aimedCount := by decide +kernel
  refine lv_iconst (v := 0) hx hb dX2_aimedCount_0 (by decide) ?_
  refine lv_istore_n (lv' := [(1, .int 0), (0, .ref (ad b))]) hx hb dX2_aimedCount_1 rfl hl (by decide) rfl (fun ls hl => ?_)
  refine lv_iconst (v := 0) hx hb dX2_aimedCount_2 (by decide) ?_
  refine lv_istore_n (lv' := [(2, .int 0), (1, .int 0), (0, .ref (ad b))]) hx hb dX2_aimedCount_3 rfl hl (by decide) rfl (fun ls hl => ?_)
  have LP_1 : ∀ (k9 i : Nat), i ≤ 36 → 36 - i < k9 → ∀ (H : Heap) (locs : List Loc) (ls : Array Slot), nP E ad st H → nD A ad st → va_S A s.heap H locs → lv_has ls 3 [(1, .int (nI (cnI (fun k => !decide (gAim G k = -1)) i))), (2, .int (nI i)), (0, .ref (ad b))] → W pg l en (nRm 2 44) s mi ar bw mth cd H locs 0 0 Q (F0 mi 4 ls []) := by
    intro k9
    induction k9 with
    | zero => intro i _ h9; exact absurd h9 (Nat.not_lt_zero _)
    | succ k9 ih4 =>
      intro i hi hk9 H locs ls  hP hD hS hl
      refine lv_iload_n hx hb dX2_aimedCount_4 rfl (lv_at hl 1 rfl) ?_
      refine lv_bipush (v := 36) hx hb dX2_aimedCount_5 (by decide) ?_
      refine lv_icmp_ge (tgt := 28) hx hb dX2_aimedCount_7 (by decide) (fun c7_1 => ?_) (fun c7_1 => ?_)
      · have h36 : 36 ≤ i := (nI_geL (n := 36) rfl (by decide) (by omega)).mp c7_1
        obtain rfl : i = 36 := by omega
        refine lv_iload_n hx hb dX2_aimedCount_28 rfl (lv_at hl 0 rfl) ?_
        exact hret _ _ _ _ _ _ hP hD hS (⟨rfl, rfl⟩) dX2_aimedCount_29
      · have hlt : i < 36 := by have := mt (nI_geL (n := 36) (i := i) rfl (by decide) (by omega)).mpr c7_1; omega
        refine lv_aload_n hx hb dX2_aimedCount_10 rfl (lv_at hl 2 rfl) ?_
        refine lv_iload_n hx hb dX2_aimedCount_11 rfl (lv_at hl 1 rfl) ?_
        refine nVi (As := [.int (nI i)]) (rest := _) hx hb hml hown hts hP hK hD hZ hA hS ⟨Nat.zero_le _, Nat.zero_le _⟩ hR.1 rfl (c_aim l E ad st b G hR i (by omega)) (cwV 1 hts gX2_aimedCount_X2_aim rfl rfl rfl (by decide +kernel) ⟨Nat.le_of_ble_eq_true rfl, Nat.le_of_ble_eq_true rfl⟩) hl.1 rfl (Nat.le_of_ble_eq_true rfl) dX2_aimedCount_12 (fun r_3 s_4 H locs hq hP hD hS => ?_)
        obtain ⟨hrr_3, rfl⟩ := hq
        refine lv_iconst (v := -1) hx hb dX2_aimedCount_15 (by decide) ?_
        refine lv_icmp_eq (tgt := 22) hx hb dX2_aimedCount_16 (by decide) (fun c16_4 => ?_) (fun c16_4 => ?_)
        · have hPi : (fun k => !decide (gAim G k = -1)) i = false := by rw [hrr_3] at c16_4; simp [c16_4]
          refine lv_iinc (v := nI (i + 1)) (lv' := [(2, .int (nI (i + 1))), (1, .int (nI (cnI (fun k => !decide (gAim G k = -1)) i))), (0, .ref (ad b))]) hx hb dX2_aimedCount_22 hl (k := 1) rfl (nI_1 _) (by decide) rfl (fun ls hl => ?_)
          refine lv_goto (tgt := 4) hx hb dX2_aimedCount_25 (by decide) ?_
          exact ih4 (i + 1) (by omega) (by omega) _ _ _  hP hD hS (by rw [cnI_f hPi]; exact lv_sub hl [1, 0, 2] rfl)
        · have hPi : (fun k => !decide (gAim G k = -1)) i = true := by rw [hrr_3] at c16_4; simp [c16_4]
          refine lv_iinc (v := nI ((cnI (fun k => !decide (gAim G k = -1)) i) + 1)) (lv' := [(1, .int (nI ((cnI (fun k => !decide (gAim G k = -1)) i) + 1))), (2, .int (nI i)), (0, .ref (ad b))]) hx hb dX2_aimedCount_19 hl (k := 0) rfl (nI_1 _) (by decide) rfl (fun ls hl => ?_)
          refine lv_iinc (v := nI (i + 1)) (lv' := [(2, .int (nI (i + 1))), (1, .int (nI ((cnI (fun k => !decide (gAim G k = -1)) i) + 1))), (0, .ref (ad b))]) hx hb dX2_aimedCount_22 hl (k := 1) rfl (nI_1 _) (by decide) rfl (fun ls hl => ?_)
          refine lv_goto (tgt := 4) hx hb dX2_aimedCount_25 (by decide) ?_
          exact ih4 (i + 1) (by omega) (by omega) _ _ _  hP hD hS (by rw [cnI_t hPi]; exact lv_sub hl [1, 0, 2] rfl)
  exact LP_1 (36 + 1) 0 (Nat.zero_le _) (by omega) _ _ _  hP hD hS (lv_sub hl [1, 0, 2] rfl)

set_option maxHeartbeats 4000000 in
set_option maxRecDepth 100000 in
theorem c_obeyingCount (l : Launch) (E : NE) (ad : Nat → Nat) (st : NW) (b : Nat) (G : Nat → Nat → Int32) (hR : isR E ad st b sG G) : nMi l yX2_obeyingCount wsX2_obeyingCount (nRm 2 44) E ad st [.ref (ad b)] (fun r s1 => r = nI (cnI (fun k => decide (gAim G k = G 0 k)) 36) ∧ st = s1) := by
  refine nSi (cc := cX2_obeyingCount) (maxL := 3) (by decide) rfl (Nat.le_of_ble_eq_true rfl) ?_
  intro pg en s mi ar bw mth cd R Q A ls hx hb hml hown hts hRm hP hK hD hZ hA hl hret
  subst hRm
  have hown : s.vm.findClass RX2 = some mi.cls := hown
  have hS : va_S A s.heap s.heap [] := va_S.rf
  have hl : lv_has ls 3 [(0, .ref (ad b))] := hl
  have hinX2 : ∀ w ∈ wsX20, w ∈ wsX2_obeyingCount := by decide +kernel
  refine lv_iconst (v := 0) hx hb dX2_obeyingCount_0 (by decide) ?_
  refine lv_istore_n (lv' := [(1, .int 0), (0, .ref (ad b))]) hx hb dX2_obeyingCount_1 rfl hl (by decide) rfl (fun ls hl => ?_)
  refine lv_iconst (v := 0) hx hb dX2_obeyingCount_2 (by decide) ?_
  refine lv_istore_n (lv' := [(2, .int 0), (1, .int 0), (0, .ref (ad b))]) hx hb dX2_obeyingCount_3 rfl hl (by decide) rfl (fun ls hl => ?_)
  have LP_1 : ∀ (k9 i : Nat), i ≤ 36 → 36 - i < k9 → ∀ (H : Heap) (locs : List Loc) (ls : Array Slot), nP E ad st H → nD A ad st → va_S A s.heap H locs → lv_has ls 3 [(1, .int (nI (cnI (fun k => decide (gAim G k = G 0 k)) i))), (2, .int (nI i)), (0, .ref (ad b))] → W pg l en (nRm 2 44) s mi ar bw mth cd H locs 0 0 Q (F0 mi 4 ls []) := by
    intro k9
    induction k9 with
    | zero => intro i _ h9; exact absurd h9 (Nat.not_lt_zero _)
    | succ k9 ih4 =>
      intro i hi hk9 H locs ls  hP hD hS hl
      refine lv_iload_n hx hb dX2_obeyingCount_4 rfl (lv_at hl 1 rfl) ?_
      refine lv_bipush (v := 36) hx hb dX2_obeyingCount_5 (by decide) ?_
      refine lv_icmp_ge (tgt := 33) hx hb dX2_obeyingCount_7 (by decide) (fun c7_1 => ?_) (fun c7_1 => ?_)
      · have h36 : 36 ≤ i := (nI_geL (n := 36) rfl (by decide) (by omega)).mp c7_1
        obtain rfl : i = 36 := by omega
        refine lv_iload_n hx hb dX2_obeyingCount_33 rfl (lv_at hl 0 rfl) ?_
        exact hret _ _ _ _ _ _ hP hD hS (⟨rfl, rfl⟩) dX2_obeyingCount_34
      · have hlt : i < 36 := by have := mt (nI_geL (n := 36) (i := i) rfl (by decide) (by omega)).mpr c7_1; omega
        refine lv_aload_n hx hb dX2_obeyingCount_10 rfl (lv_at hl 2 rfl) ?_
        refine lv_iload_n hx hb dX2_obeyingCount_11 rfl (lv_at hl 1 rfl) ?_
        refine nVi (As := [.int (nI i)]) (rest := _) hx hb hml hown hts hP hK hD hZ hA hS ⟨Nat.zero_le _, Nat.zero_le _⟩ hR.1 rfl (c_aim l E ad st b G hR i (by omega)) (cwV 1 hts gX2_obeyingCount_X2_aim rfl rfl rfl (by decide +kernel) ⟨Nat.le_of_ble_eq_true rfl, Nat.le_of_ble_eq_true rfl⟩) hl.1 rfl (Nat.le_of_ble_eq_true rfl) dX2_obeyingCount_12 (fun r_3 s_4 H locs hq hP hD hS => ?_)
        obtain ⟨hrr_3, rfl⟩ := hq
        refine lv_aload_n hx hb dX2_obeyingCount_15 rfl (lv_at hl 2 rfl) ?_
        refine rg (v := .ref (ad (b + 1 + 0))) (T := TX2) (N := 13) (C := RX2) hx hb hts hinX2 hown hK hP hR rfl 0 (by decide) (hts (.fieldLink RX2 9 "NeedleGrid$Grid" "directions" "[I") (by decide +kernel)) rfl dX2_obeyingCount_16 ?_
        refine lv_iload_n hx hb dX2_obeyingCount_19 rfl (lv_at hl 1 rfl) ?_
        refine ra (j := i) (n := 36) hx hb hK hP hR 0 rfl (by omega) (by decide) dX2_obeyingCount_20 ?_
        refine lv_icmp_ne (tgt := 27) hx hb dX2_obeyingCount_21 (by decide) (fun c21_4 => ?_) (fun c21_4 => ?_)
        · have hPi : (fun k => decide (gAim G k = G 0 k)) i = false := by rw [hrr_3] at c21_4; simp [c21_4]
          refine lv_iinc (v := nI (i + 1)) (lv' := [(2, .int (nI (i + 1))), (1, .int (nI (cnI (fun k => decide (gAim G k = G 0 k)) i))), (0, .ref (ad b))]) hx hb dX2_obeyingCount_27 hl (k := 1) rfl (nI_1 _) (by decide) rfl (fun ls hl => ?_)
          refine lv_goto (tgt := 4) hx hb dX2_obeyingCount_30 (by decide) ?_
          exact ih4 (i + 1) (by omega) (by omega) _ _ _  hP hD hS (by rw [cnI_f hPi]; exact lv_sub hl [1, 0, 2] rfl)
        · have hPi : (fun k => decide (gAim G k = G 0 k)) i = true := by rw [hrr_3] at c21_4; simp [c21_4]
          refine lv_iinc (v := nI ((cnI (fun k => decide (gAim G k = G 0 k)) i) + 1)) (lv' := [(1, .int (nI ((cnI (fun k => decide (gAim G k = G 0 k)) i) + 1))), (2, .int (nI i)), (0, .ref (ad b))]) hx hb dX2_obeyingCount_24 hl (k := 0) rfl (nI_1 _) (by decide) rfl (fun ls hl => ?_)
          refine lv_iinc (v := nI (i + 1)) (lv' := [(2, .int (nI (i + 1))), (1, .int (nI ((cnI (fun k => decide (gAim G k = G 0 k)) i) + 1))), (0, .ref (ad b))]) hx hb dX2_obeyingCount_27 hl (k := 1) rfl (nI_1 _) (by decide) rfl (fun ls hl => ?_)
          refine lv_goto (tgt := 4) hx hb dX2_obeyingCount_30 (by decide) ?_
          exact ih4 (i + 1) (by omega) (by omega) _ _ _  hP hD hS (by rw [cnI_t hPi]; exact lv_sub hl [1, 0, 2] rfl)
  exact LP_1 (36 + 1) 0 (Nat.zero_le _) (by omega) _ _ _  hP hD hS (lv_sub hl [1, 0, 2] rfl)

set_option maxHeartbeats 4000000 in
set_option maxRecDepth 100000 in
theorem c_pointingCount (l : Launch) (E : NE) (ad : Nat → Nat) (st : NW) (b : Nat) (G : Nat → Nat → Int32) (hR : isR E ad st b sG G) (d : Int32) : nMi l yX2_pointingCount wsX2_pointingCount (nRm 0 0) E ad st [.ref (ad b), .int d] (fun r s1 => r = nI (cnI (fun k => decide (G 0 k = d)) 36) ∧ st = s1) := by
  refine nSi (cc := cX2_pointingCount) (maxL := 4) (by decide) rfl (Nat.le_of_ble_eq_true rfl) ?_
  intro pg en s mi ar bw mth cd R Q A ls hx hb hml hown hts hRm hP hK hD hZ hA hl hret
  subst hRm
  have hown : s.vm.findClass RX2 = some mi.cls := hown
  have hS : va_S A s.heap s.heap [] := va_S.rf
  have hl : lv_has ls 4 [(0, .ref (ad b)), (1, .int d)] := hl
  have hinX2 : ∀ w ∈ wsX20, w ∈ wsX2_pointingCount := by decide +kernel
  refine lv_iconst (v := 0) hx hb dX2_pointingCount_0 (by decide) ?_
  refine lv_istore_n (lv' := [(2, .int 0), (0, .ref (ad b)), (1, .int d)]) hx hb dX2_pointingCount_1 rfl hl (by decide) rfl (fun ls hl => ?_)
  refine lv_iconst (v := 0) hx hb dX2_pointingCount_2 (by decide) ?_
  refine lv_istore_n (lv' := [(3, .int 0), (2, .int 0), (0, .ref (ad b)), (1, .int d)]) hx hb dX2_pointingCount_3 rfl hl (by decide) rfl (fun ls hl => ?_)
  have LP_1 : ∀ (k9 i : Nat), i ≤ 36 → 36 - i < k9 → ∀ (H : Heap) (locs : List Loc) (ls : Array Slot), nP E ad st H → nD A ad st → va_S A s.heap H locs → lv_has ls 4 [(2, .int (nI (cnI (fun k => decide (G 0 k = d)) i))), (3, .int (nI i)), (0, .ref (ad b)), (1, .int d)] → W pg l en (nRm 0 0) s mi ar bw mth cd H locs 0 0 Q (F0 mi 4 ls []) := by
    intro k9
    induction k9 with
    | zero => intro i _ h9; exact absurd h9 (Nat.not_lt_zero _)
    | succ k9 ih4 =>
      intro i hi hk9 H locs ls  hP hD hS hl
      refine lv_iload_n hx hb dX2_pointingCount_4 rfl (lv_at hl 1 rfl) ?_
      refine lv_bipush (v := 36) hx hb dX2_pointingCount_5 (by decide) ?_
      refine lv_icmp_ge (tgt := 29) hx hb dX2_pointingCount_7 (by decide) (fun c7_1 => ?_) (fun c7_1 => ?_)
      · have h36 : 36 ≤ i := (nI_geL (n := 36) rfl (by decide) (by omega)).mp c7_1
        obtain rfl : i = 36 := by omega
        refine lv_iload_n hx hb dX2_pointingCount_29 rfl (lv_at hl 0 rfl) ?_
        exact hret _ _ _ _ _ _ hP hD hS (⟨rfl, rfl⟩) dX2_pointingCount_30
      · have hlt : i < 36 := by have := mt (nI_geL (n := 36) (i := i) rfl (by decide) (by omega)).mpr c7_1; omega
        refine lv_aload_n hx hb dX2_pointingCount_10 rfl (lv_at hl 2 rfl) ?_
        refine rg (v := .ref (ad (b + 1 + 0))) (T := TX2) (N := 13) (C := RX2) hx hb hts hinX2 hown hK hP hR rfl 0 (by decide) (hts (.fieldLink RX2 9 "NeedleGrid$Grid" "directions" "[I") (by decide +kernel)) rfl dX2_pointingCount_11 ?_
        refine lv_iload_n hx hb dX2_pointingCount_14 rfl (lv_at hl 1 rfl) ?_
        refine ra (j := i) (n := 36) hx hb hK hP hR 0 rfl (by omega) (by decide) dX2_pointingCount_15 ?_
        refine lv_iload_n hx hb dX2_pointingCount_16 rfl (lv_at hl 3 rfl) ?_
        refine lv_icmp_ne (tgt := 23) hx hb dX2_pointingCount_17 (by decide) (fun c17_2 => ?_) (fun c17_2 => ?_)
        · have hPi : (fun k => decide (G 0 k = d)) i = false := by simp [c17_2]
          refine lv_iinc (v := nI (i + 1)) (lv' := [(3, .int (nI (i + 1))), (2, .int (nI (cnI (fun k => decide (G 0 k = d)) i))), (0, .ref (ad b)), (1, .int d)]) hx hb dX2_pointingCount_23 hl (k := 1) rfl (nI_1 _) (by decide) rfl (fun ls hl => ?_)
          refine lv_goto (tgt := 4) hx hb dX2_pointingCount_26 (by decide) ?_
          exact ih4 (i + 1) (by omega) (by omega) _ _ _  hP hD hS (by rw [cnI_f hPi]; exact lv_sub hl [1, 0, 2, 3] rfl)
        · have hPi : (fun k => decide (G 0 k = d)) i = true := by simp [c17_2]
          refine lv_iinc (v := nI ((cnI (fun k => decide (G 0 k = d)) i) + 1)) (lv' := [(2, .int (nI ((cnI (fun k => decide (G 0 k = d)) i) + 1))), (3, .int (nI i)), (0, .ref (ad b)), (1, .int d)]) hx hb dX2_pointingCount_20 hl (k := 0) rfl (nI_1 _) (by decide) rfl (fun ls hl => ?_)
          refine lv_iinc (v := nI (i + 1)) (lv' := [(3, .int (nI (i + 1))), (2, .int (nI ((cnI (fun k => decide (G 0 k = d)) i) + 1))), (0, .ref (ad b)), (1, .int d)]) hx hb dX2_pointingCount_23 hl (k := 1) rfl (nI_1 _) (by decide) rfl (fun ls hl => ?_)
          refine lv_goto (tgt := 4) hx hb dX2_pointingCount_26 (by decide) ?_
          exact ih4 (i + 1) (by omega) (by omega) _ _ _  hP hD hS (by rw [cnI_t hPi]; exact lv_sub hl [1, 0, 2, 3] rfl)
  exact LP_1 (36 + 1) 0 (Nat.zero_le _) (by omega) _ _ _  hP hD hS (lv_sub hl [1, 0, 2, 3] rfl)

set_option maxHeartbeats 4000000 in
set_option maxRecDepth 100000 in
theorem c_awayTogether (l : Launch) (E : NE) (ad : Nat → Nat) (st : NW) (b : Nat) (G : Nat → Nat → Int32) (hR : isR E ad st b sG G) : nMi l yX2_awayTogether wsX2_awayTogether (nRm 3 67) E ad st [.ref (ad b)] (fun r s1 => r = awS (gAw G) 36 ∧ st = s1) := by
  refine nSi (cc := cX2_awayTogether) (maxL := 4) (by decide) rfl (Nat.le_of_ble_eq_true rfl) ?_
  intro pg en s mi ar bw mth cd R Q A ls hx hb hml hown hts hRm hP hK hD hZ hA hl hret
  subst hRm
  have hown : s.vm.findClass RX2 = some mi.cls := hown
  have hS : va_S A s.heap s.heap [] := va_S.rf
  have hl : lv_has ls 4 [(0, .ref (ad b))] := hl
  have hinX2 : ∀ w ∈ wsX20, w ∈ wsX2_awayTogether := by decide +kernel
  refine lv_iconst (v := 0) hx hb dX2_awayTogether_0 (by decide) ?_
  refine lv_istore_n (lv' := [(1, .int 0), (0, .ref (ad b))]) hx hb dX2_awayTogether_1 rfl hl (by decide) rfl (fun ls hl => ?_)
  refine lv_iconst (v := 0) hx hb dX2_awayTogether_2 (by decide) ?_
  refine lv_istore_n (lv' := [(2, .int 0), (1, .int 0), (0, .ref (ad b))]) hx hb dX2_awayTogether_3 rfl hl (by decide) rfl (fun ls hl => ?_)
  have LP_1 : ∀ (k9 i : Nat), i ≤ 36 → 36 - i < k9 → ∀ (H : Heap) (locs : List Loc) (ls : Array Slot), nP E ad st H → nD A ad st → va_S A s.heap H locs → lv_has ls 4 [(1, .int (awS (gAw G) i)), (2, .int (nI i)), (0, .ref (ad b))] → W pg l en (nRm 3 67) s mi ar bw mth cd H locs 0 0 Q (F0 mi 4 ls []) := by
    intro k9
    induction k9 with
    | zero => intro i _ h9; exact absurd h9 (Nat.not_lt_zero _)
    | succ k9 ih4 =>
      intro i hi hk9 H locs ls  hP hD hS hl
      refine lv_iload_n hx hb dX2_awayTogether_4 rfl (lv_at hl 1 rfl) ?_
      refine lv_bipush (v := 36) hx hb dX2_awayTogether_5 (by decide) ?_
      refine lv_icmp_ge (tgt := 31) hx hb dX2_awayTogether_7 (by decide) (fun c7_1 => ?_) (fun c7_1 => ?_)
      · have h36 : 36 ≤ i := (nI_geL (n := 36) rfl (by decide) (by omega)).mp c7_1
        obtain rfl : i = 36 := by omega
        refine lv_iload_n hx hb dX2_awayTogether_31 rfl (lv_at hl 0 rfl) ?_
        exact hret _ _ _ _ _ _ hP hD hS (⟨rfl, rfl⟩) dX2_awayTogether_32
      · have hlt : i < 36 := by have := mt (nI_geL (n := 36) (i := i) rfl (by decide) (by omega)).mpr c7_1; omega
        refine lv_aload_n hx hb dX2_awayTogether_10 rfl (lv_at hl 2 rfl) ?_
        refine lv_iload_n hx hb dX2_awayTogether_11 rfl (lv_at hl 1 rfl) ?_
        refine nVi (As := [.int (nI i)]) (rest := _) hx hb hml hown hts hP hK hD hZ hA hS ⟨Nat.zero_le _, Nat.zero_le _⟩ hR.1 rfl (c_awayFromAim l E ad st b G hR i (by omega)) (cwV 1 hts gX2_awayTogether_X2_awayFromAim rfl rfl rfl (by decide +kernel) ⟨Nat.le_of_ble_eq_true rfl, Nat.le_of_ble_eq_true rfl⟩) hl.1 rfl (Nat.le_of_ble_eq_true rfl) dX2_awayTogether_12 (fun r_3 s_4 H locs hq hP hD hS => ?_)
        obtain ⟨hrr_3, rfl⟩ := hq
        refine lv_istore_n (lv' := [(3, .int r_3), (1, .int (awS (gAw G) i)), (2, .int (nI i)), (0, .ref (ad b))]) hx hb dX2_awayTogether_15 rfl hl (by decide) rfl (fun ls hl => ?_)
        refine lv_iload_n hx hb dX2_awayTogether_16 rfl (lv_at hl 0 rfl) ?_
        refine lv_iconst (v := -1) hx hb dX2_awayTogether_17 (by decide) ?_
        refine lv_icmp_eq (tgt := 25) hx hb dX2_awayTogether_18 (by decide) (fun c18_4 => ?_) (fun c18_4 => ?_)
        · have hne : gAw G i = -1 := by rw [← hrr_3]; exact c18_4
          refine lv_iinc (v := nI (i + 1)) (lv' := [(2, .int (nI (i + 1))), (3, .int r_3), (1, .int (awS (gAw G) i)), (0, .ref (ad b))]) hx hb dX2_awayTogether_25 hl (k := 2) rfl (nI_1 _) (by decide) rfl (fun ls hl => ?_)
          refine lv_goto (tgt := 4) hx hb dX2_awayTogether_28 (by decide) ?_
          exact ih4 (i + 1) (by omega) (by omega) _ _ _  hP hD hS (by rw [awS_f hne]; exact lv_sub hl [2, 0, 3] rfl)
        · have hne : ¬ gAw G i = -1 := by rw [← hrr_3]; exact c18_4
          refine lv_iload_n hx hb dX2_awayTogether_21 rfl (lv_at hl 1 rfl) ?_
          refine lv_iload_n hx hb dX2_awayTogether_22 rfl (lv_at hl 0 rfl) ?_
          refine lv_iadd hx hb dX2_awayTogether_23 ?_
          refine lv_topi (fun x1_24 ex1_24 => ?_)
          refine lv_istore_n (lv' := [(1, .int x1_24), (3, .int r_3), (2, .int (nI i)), (0, .ref (ad b))]) hx hb dX2_awayTogether_24 rfl hl (by decide) rfl (fun ls hl => ?_)
          refine lv_iinc (v := nI (i + 1)) (lv' := [(2, .int (nI (i + 1))), (1, .int x1_24), (3, .int r_3), (0, .ref (ad b))]) hx hb dX2_awayTogether_25 hl (k := 2) rfl (nI_1 _) (by decide) rfl (fun ls hl => ?_)
          refine lv_goto (tgt := 4) hx hb dX2_awayTogether_28 (by decide) ?_
          exact ih4 (i + 1) (by omega) (by omega) _ _ _  hP hD hS (by rw [awS_t hne, ← hrr_3, ← ex1_24]; exact lv_sub hl [1, 0, 3] rfl)
  exact LP_1 (36 + 1) 0 (Nat.zero_le _) (by omega) _ _ _  hP hD hS (lv_sub hl [1, 0, 2] rfl)

set_option maxHeartbeats 4000000 in
set_option maxRecDepth 100000 in
theorem c_cellOfBar (l : Launch) (E : NE) (ad : Nat → Nat) (st : NW) (b : Nat) (G : Nat → Nat → Int32) (hR : isR E ad st b sG G) (pl : Int32) : nMi l yX2_cellOfBar wsX2_cellOfBar (nRm 1 21) E ad st [.ref (ad b), .int pl] (fun r s1 => r = fndB (isB (G 4)) pl 36 0 ∧ st = s1) := by
  refine nSi (cc := cX2_cellOfBar) (maxL := 4) (by decide) rfl (Nat.le_of_ble_eq_true rfl) ?_
  intro pg en s mi ar bw mth cd R Q A ls hx hb hml hown hts hRm hP hK hD hZ hA hl hret
  subst hRm
  have hown : s.vm.findClass RX2 = some mi.cls := hown
  have hS : va_S A s.heap s.heap [] := va_S.rf
  have hl : lv_has ls 4 [(0, .ref (ad b)), (1, .int pl)] := hl
  have hinX2 : ∀ w ∈ wsX20, w ∈ wsX2_cellOfBar := by decide +kernel
  refine lv_iconst (v := 0) hx hb dX2_cellOfBar_0 (by decide) ?_
  refine lv_istore_n (lv' := [(2, .int 0), (0, .ref (ad b)), (1, .int pl)]) hx hb dX2_cellOfBar_1 rfl hl (by decide) rfl (fun ls hl => ?_)
  refine lv_iconst (v := 0) hx hb dX2_cellOfBar_2 (by decide) ?_
  refine lv_istore_n (lv' := [(3, .int 0), (2, .int 0), (0, .ref (ad b)), (1, .int pl)]) hx hb dX2_cellOfBar_3 rfl hl (by decide) rfl (fun ls hl => ?_)
  have LP_1 : ∀ (k9 i : Nat), i ≤ 36 → 36 - i < k9 → ∀ (H : Heap) (locs : List Loc) (ls : Array Slot), fndB (isB (G 4)) pl 36 0 = fndB (isB (G 4)) pl (36 - i) i → nP E ad st H → nD A ad st → va_S A s.heap H locs → lv_has ls 4 [(2, .int (nI (cnI (isB (G 4)) i))), (3, .int (nI i)), (0, .ref (ad b)), (1, .int pl)] → W pg l en (nRm 1 21) s mi ar bw mth cd H locs 0 0 Q (F0 mi 4 ls []) := by
    intro k9
    induction k9 with
    | zero => intro i _ h9; exact absurd h9 (Nat.not_lt_zero _)
    | succ k9 ih4 =>
      intro i hi hk9 H locs ls hfn hP hD hS hl
      refine lv_iload_n hx hb dX2_cellOfBar_4 rfl (lv_at hl 1 rfl) ?_
      refine lv_bipush (v := 36) hx hb dX2_cellOfBar_5 (by decide) ?_
      refine lv_icmp_ge (tgt := 34) hx hb dX2_cellOfBar_7 (by decide) (fun c7_1 => ?_) (fun c7_1 => ?_)
      · have h36 : 36 ≤ i := (nI_geL (n := 36) rfl (by decide) (by omega)).mp c7_1
        obtain rfl : i = 36 := by omega
        refine lv_iconst (v := -1) hx hb dX2_cellOfBar_34 (by decide) ?_
        exact hret _ _ _ _ _ _ hP hD hS (⟨by rw [hfn]; rfl, rfl⟩) dX2_cellOfBar_35
      · have hlt : i < 36 := by have := mt (nI_geL (n := 36) (i := i) rfl (by decide) (by omega)).mpr c7_1; omega
        refine lv_aload_n hx hb dX2_cellOfBar_10 rfl (lv_at hl 2 rfl) ?_
        refine lv_iload_n hx hb dX2_cellOfBar_11 rfl (lv_at hl 1 rfl) ?_
        refine nVi (As := [.int (nI i)]) (rest := _) hx hb hml hown hts hP hK hD hZ hA hS ⟨Nat.zero_le _, Nat.zero_le _⟩ hR.1 rfl (c_hasBar l E ad st b G hR i (by omega)) (cwV 1 hts gX2_cellOfBar_X2_hasBar rfl rfl rfl (by decide +kernel) ⟨Nat.le_of_ble_eq_true rfl, Nat.le_of_ble_eq_true rfl⟩) hl.1 rfl (Nat.le_of_ble_eq_true rfl) dX2_cellOfBar_12 (fun r_3 s_4 H locs hq hP hD hS => ?_)
        obtain ⟨hrr_3, rfl⟩ := hq
        refine lv_if_eq (tgt := 28) hx hb dX2_cellOfBar_15 (by decide) (fun c15_4 => ?_) (fun c15_4 => ?_)
        · have hPi : (isB (G 4)) i = false := by simp [isB, b01_f hrr_3 c15_4]
          have hst : ∀ q, (if (isB (G 4)) i = true then (if nI (cnI (isB (G 4)) i) = pl then nI i else q) else q) = q := by intro q; rw [hPi]; simp
          refine lv_iinc (v := nI (i + 1)) (lv' := [(3, .int (nI (i + 1))), (2, .int (nI (cnI (isB (G 4)) i))), (0, .ref (ad b)), (1, .int pl)]) hx hb dX2_cellOfBar_28 hl (k := 1) rfl (nI_1 _) (by decide) rfl (fun ls hl => ?_)
          refine lv_goto (tgt := 4) hx hb dX2_cellOfBar_31 (by decide) ?_
          exact ih4 (i + 1) (by omega) (by omega) _ _ _ (by rw [hfn, show 36 - i = (36 - (i + 1)) + 1 by omega]; simp only [fndB, hst]) hP hD hS (by rw [cnI_f hPi]; exact lv_sub hl [1, 0, 2, 3] rfl)
        · have hPi : (isB (G 4)) i = true := by simp [isB, b01_t hrr_3 c15_4]
          refine lv_iload_n hx hb dX2_cellOfBar_18 rfl (lv_at hl 0 rfl) ?_
          refine lv_iload_n hx hb dX2_cellOfBar_19 rfl (lv_at hl 3 rfl) ?_
          refine lv_icmp_ne (tgt := 25) hx hb dX2_cellOfBar_20 (by decide) (fun c20_6 => ?_) (fun c20_6 => ?_)
          · have hst : ∀ q, (if (isB (G 4)) i = true then (if nI (cnI (isB (G 4)) i) = pl then nI i else q) else q) = q := by intro q; rw [hPi, if_pos rfl, if_neg c20_6]
            refine lv_iinc (v := nI ((cnI (isB (G 4)) i) + 1)) (lv' := [(2, .int (nI ((cnI (isB (G 4)) i) + 1))), (3, .int (nI i)), (0, .ref (ad b)), (1, .int pl)]) hx hb dX2_cellOfBar_25 hl (k := 0) rfl (nI_1 _) (by decide) rfl (fun ls hl => ?_)
            refine lv_iinc (v := nI (i + 1)) (lv' := [(3, .int (nI (i + 1))), (2, .int (nI ((cnI (isB (G 4)) i) + 1))), (0, .ref (ad b)), (1, .int pl)]) hx hb dX2_cellOfBar_28 hl (k := 1) rfl (nI_1 _) (by decide) rfl (fun ls hl => ?_)
            refine lv_goto (tgt := 4) hx hb dX2_cellOfBar_31 (by decide) ?_
            exact ih4 (i + 1) (by omega) (by omega) _ _ _ (by rw [hfn, show 36 - i = (36 - (i + 1)) + 1 by omega]; simp only [fndB, hst]) hP hD hS (by rw [cnI_t hPi]; exact lv_sub hl [1, 0, 2, 3] rfl)
          · refine lv_iload_n hx hb dX2_cellOfBar_23 rfl (lv_at hl 1 rfl) ?_
            exact hret _ _ _ _ _ _ hP hD hS (⟨by rw [hfn, show 36 - i = (36 - (i + 1)) + 1 by omega]; simp only [fndB]; rw [if_pos hPi, if_pos (by simpa using c20_6)], rfl⟩) dX2_cellOfBar_24
  exact LP_1 (36 + 1) 0 (Nat.zero_le _) (by omega) _ _ _ rfl hP hD hS (lv_sub hl [1, 0, 2, 3] rfl)

set_option maxHeartbeats 4000000 in
set_option maxRecDepth 100000 in
theorem c_layBar (l : Launch) (E : NE) (ad : Nat → Nat) (st : NW) (b : Nat) (G : Nat → Nat → Int32) (hR : isR E ad st b sG G) (c : Nat) (hc : c < 36) (d t : Int32) : nMv l yX2_layBar wsX2_layBar (nRm 0 0) E ad st [.ref (ad b), .int (nI c), .int d, .int t] (fun s1 => isR E ad s1 b sG (gu (gu G 3 (upd (G 3) c d)) 4 (upd (G 4) c t)) ∧ fr b st s1) := by
  refine nSv (cc := cX2_layBar) (maxL := 4) (by decide) rfl (Nat.le_of_ble_eq_true rfl) ?_
  intro pg en s mi ar bw mth cd R Q A ls hx hb hml hown hts hRm hP hK hD hZ hA hl hret
  subst hRm
  have hown : s.vm.findClass RX2 = some mi.cls := hown
  have hS : va_S A s.heap s.heap [] := va_S.rf
  have hl : lv_has ls 4 [(0, .ref (ad b)), (1, .int (nI c)), (2, .int d), (3, .int t)] := hl
  have hf : fr b st st := fr.rf
  have hinX2 : ∀ w ∈ wsX20, w ∈ wsX2_layBar := by decide +kernel
  refine lv_aload_n hx hb dX2_layBar_0 rfl (lv_at hl 0 rfl) ?_
  refine rg (v := .ref (ad (b + 1 + 3))) (T := TX2) (N := 13) (C := RX2) hx hb hts hinX2 hown hK hP hR rfl 3 (by decide) (hts (.fieldLink RX2 22 "NeedleGrid$Grid" "barDirections" "[I") (by decide +kernel)) rfl dX2_layBar_1 ?_
  refine lv_iload_n hx hb dX2_layBar_4 rfl (lv_at hl 1 rfl) ?_
  refine lv_iload_n hx hb dX2_layBar_5 rfl (lv_at hl 2 rfl) ?_
  refine rs (j := c) (n := 36) (x := d) hx hb hK hP hD hS hR 3 rfl (by decide) (by omega) (by decide) dX2_layBar_6 (fun s_1 H locs hR hf_2 hP hD hS => ?_)
  have hf := hf.tr hf_2
  refine lv_aload_n hx hb dX2_layBar_7 rfl (lv_at hl 0 rfl) ?_
  refine rg (v := .ref (ad (b + 1 + 4))) (T := TX2) (N := 13) (C := RX2) hx hb hts hinX2 hown hK hP hR rfl 4 (by decide) (hts (.fieldLink RX2 25 "NeedleGrid$Grid" "barStrengths" "[I") (by decide +kernel)) rfl dX2_layBar_8 ?_
  refine lv_iload_n hx hb dX2_layBar_11 rfl (lv_at hl 1 rfl) ?_
  refine lv_iload_n hx hb dX2_layBar_12 rfl (lv_at hl 3 rfl) ?_
  refine rs (j := c) (n := 36) (x := t) hx hb hK hP hD hS hR 4 rfl (by decide) (by omega) (by decide) dX2_layBar_13 (fun s_3 H locs hR hf_4 hP hD hS => ?_)
  have hf := hf.tr hf_4
  exact hret _ _ _ _ _ hP hD hS (⟨hR, hf⟩) dX2_layBar_14

set_option maxHeartbeats 4000000 in
set_option maxRecDepth 100000 in
theorem c_takeBar (l : Launch) (E : NE) (ad : Nat → Nat) (st : NW) (b : Nat) (G : Nat → Nat → Int32) (hR : isR E ad st b sG G) (c : Nat) (hc : c < 36) : nMv l yX2_takeBar wsX2_takeBar (nRm 1 23) E ad st [.ref (ad b), .int (nI c)] (fun s1 => isR E ad s1 b sG (gu (gu G 3 (upd (G 3) c 0)) 4 (upd (G 4) c 0)) ∧ fr b st s1) := by
  refine nSv (cc := cX2_takeBar) (maxL := 2) (by decide) rfl (Nat.le_of_ble_eq_true rfl) ?_
  intro pg en s mi ar bw mth cd R Q A ls hx hb hml hown hts hRm hP hK hD hZ hA hl hret
  subst hRm
  have hown : s.vm.findClass RX2 = some mi.cls := hown
  have hS : va_S A s.heap s.heap [] := va_S.rf
  have hl : lv_has ls 2 [(0, .ref (ad b)), (1, .int (nI c))] := hl
  have hf : fr b st st := fr.rf
  have hinX2 : ∀ w ∈ wsX20, w ∈ wsX2_takeBar := by decide +kernel
  refine lv_aload_n hx hb dX2_takeBar_0 rfl (lv_at hl 0 rfl) ?_
  refine lv_iload_n hx hb dX2_takeBar_1 rfl (lv_at hl 1 rfl) ?_
  refine lv_iconst (v := 0) hx hb dX2_takeBar_2 (by decide) ?_
  refine lv_iconst (v := 0) hx hb dX2_takeBar_3 (by decide) ?_
  refine nVv (As := [.int (nI c), .int 0, .int 0]) (rest := _) hx hb hml hown hts hP hK hD hZ hA hS ⟨Nat.zero_le _, Nat.zero_le _⟩ hR.1 rfl (c_layBar l E ad st b G hR c (by omega) 0 0) (cwV 3 hts gX2_takeBar_X2_layBar rfl rfl rfl (by decide +kernel) ⟨Nat.le_of_ble_eq_true rfl, Nat.le_of_ble_eq_true rfl⟩) hl.1 rfl (Nat.le_of_ble_eq_true rfl) dX2_takeBar_4 (fun s_3 H locs hq hP hD hS => ?_)
  obtain ⟨hR, hf_2⟩ := hq
  have hf := hf.tr hf_2
  exact hret _ _ _ _ _ hP hD hS (⟨hR, hf⟩) dX2_takeBar_7

set_option maxHeartbeats 4000000 in
set_option maxRecDepth 100000 in
theorem c_addToField (l : Launch) (E : NE) (ad : Nat → Nat) (st : NW) (b : Nat) (G : Nat → Nat → Int32) (hR : isR E ad st b sG G) (c : Nat) (hc : c < 36) (x y : Int32) : nMv l yX2_addToField wsX2_addToField (nRm 0 0) E ad st [.ref (ad b), .int (nI c), .int x, .int y] (fun s1 => isR E ad s1 b sG (gu (gu G 11 (upd (G 11) c (G 11 c + x))) 12 (upd (G 12) c (G 12 c + y))) ∧ fr b st s1) := by
  refine nSv (cc := cX2_addToField) (maxL := 4) (by decide) rfl (Nat.le_of_ble_eq_true rfl) ?_
  intro pg en s mi ar bw mth cd R Q A ls hx hb hml hown hts hRm hP hK hD hZ hA hl hret
  subst hRm
  have hown : s.vm.findClass RX2 = some mi.cls := hown
  have hS : va_S A s.heap s.heap [] := va_S.rf
  have hl : lv_has ls 4 [(0, .ref (ad b)), (1, .int (nI c)), (2, .int x), (3, .int y)] := hl
  have hf : fr b st st := fr.rf
  have hinX2 : ∀ w ∈ wsX20, w ∈ wsX2_addToField := by decide +kernel
  refine lv_aload_n hx hb dX2_addToField_0 rfl (lv_at hl 0 rfl) ?_
  refine rg (v := .ref (ad (b + 1 + 11))) (T := TX2) (N := 13) (C := RX2) hx hb hts hinX2 hown hK hP hR rfl 11 (by decide) (hts (.fieldLink RX2 37 "NeedleGrid$Grid" "fieldX" "[I") (by decide +kernel)) rfl dX2_addToField_1 ?_
  refine lv_iload_n hx hb dX2_addToField_4 rfl (lv_at hl 1 rfl) ?_
  refine lv_dup2_11 hx hb dX2_addToField_5 rfl rfl ?_
  refine ra (j := c) (n := 36) hx hb hK hP hR 11 rfl (by omega) (by decide) dX2_addToField_6 ?_
  refine lv_iload_n hx hb dX2_addToField_7 rfl (lv_at hl 2 rfl) ?_
  refine lv_iadd hx hb dX2_addToField_8 ?_
  refine rs (j := c) (n := 36) (x := (G 11 c) + x) hx hb hK hP hD hS hR 11 rfl (by decide) (by omega) (by decide) dX2_addToField_9 (fun s_1 H locs hR hf_2 hP hD hS => ?_)
  have hf := hf.tr hf_2
  refine lv_aload_n hx hb dX2_addToField_10 rfl (lv_at hl 0 rfl) ?_
  refine rg (v := .ref (ad (b + 1 + 12))) (T := TX2) (N := 13) (C := RX2) hx hb hts hinX2 hown hK hP hR rfl 12 (by decide) (hts (.fieldLink RX2 40 "NeedleGrid$Grid" "fieldY" "[I") (by decide +kernel)) rfl dX2_addToField_11 ?_
  refine lv_iload_n hx hb dX2_addToField_14 rfl (lv_at hl 1 rfl) ?_
  refine lv_dup2_11 hx hb dX2_addToField_15 rfl rfl ?_
  refine ra (j := c) (n := 36) hx hb hK hP hR 12 rfl (by omega) (by decide) dX2_addToField_16 ?_
  refine lv_iload_n hx hb dX2_addToField_17 rfl (lv_at hl 3 rfl) ?_
  refine lv_iadd hx hb dX2_addToField_18 ?_
  refine rs (j := c) (n := 36) (x := (G 12 c) + y) hx hb hK hP hD hS hR 12 rfl (by decide) (by omega) (by decide) dX2_addToField_19 (fun s_3 H locs hR hf_4 hP hD hS => ?_)
  have hf := hf.tr hf_4
  exact hret _ _ _ _ _ hP hD hS (⟨hR, hf⟩) dX2_addToField_20


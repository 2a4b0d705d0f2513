set_option maxHeartbeats 4000000 in
set_option maxRecDepth 100000 in
theorem m_towards (l : Launch) (E : NE) (ad : Nat → Nat) (st : NW) (b : Nat) (N P : Nat → Int32) (kp : Nat) (C : Nat → Int32) (n : Nat) (th : Int32) (J : Nat → Nat → Int32) (hkp : kp ≤ 6) (hn : n ≤ 60) (hO : okN N) (hM : isR E ad st b sM (mG N P kp C n th J)) (d : Nat) (hd : d < 8) : nMi l yX5_towards wsX5_towards (nRm 0 0) E ad st [.ref (ad b), .int (nI d)] (fun r s1 => r = pntA N d ∧ (∃ J1, isR E ad s1 b sM (mG N P kp C n th J1)) ∧ fr b st s1) := by
  refine nSi (cc := cX5_towards) (maxL := 4) (by decide) rfl (Nat.le_of_ble_eq_true rfl) ?_
  intro pg en s mi ar bw mth cd R Q A ls hx hb hml hown hts hRm hP hK hD hZ hA hl hret
  subst hRm
  have hown : s.vm.findClass RX5 = some mi.cls := hown
  have hS : va_S A s.heap s.heap [] := va_S.rf
  have hl : lv_has ls 4 [(0, .ref (ad b)), (1, .int (nI d))] := hl
  have hf : fr b st st := fr.rf
  have hdB := hO.1.b
  have hinX5 : ∀ w ∈ wsX50, w ∈ wsX5_towards := by decide +kernel
  refine lv_iconst (v := 0) hx hb dX5_towards_0 (by decide) ?_
  refine lv_istore_n (lv' := [(2, .int 0), (0, .ref (ad b)), (1, .int (nI d))]) hx hb dX5_towards_1 rfl hl (by decide) rfl (fun ls hl => ?_)
  refine lv_iconst (v := 0) hx hb dX5_towards_2 (by decide) ?_
  refine lv_istore_n (lv' := [(3, .int 0), (2, .int 0), (0, .ref (ad b)), (1, .int (nI d))]) hx hb dX5_towards_3 rfl hl (by decide) rfl (fun ls hl => ?_)
  have LP_1 : ∀ (k9 i : Nat), i ≤ 36 → 36 - i < k9 → ∀ (sL_2 : NW) (H : Heap) (locs : List Loc) (ls : Array Slot), isR E ad sL_2 b sM ((mG N P kp C n th J)) → fr b st sL_2 → nP E ad sL_2 H → nD A ad sL_2 → va_S A s.heap H locs → lv_has ls 4 [(2, .int (nI (cnI (twP N (nI d)) i))), (3, .int (nI i)), (0, .ref (ad b)), (1, .int (nI d))] → W pg l en (nRm 0 0) s mi ar bw mth cd H locs 0 0 Q (F0 mi 4 ls []) := by
    intro k9
    induction k9 with
    | zero => intro i _ h9; exact absurd h9 (Nat.not_lt_zero _)
    | succ k9 ih4 =>
      intro i hi hk9 sL_2 H locs ls hM hf hP hD hS hl
      refine lv_iload_n hx hb dX5_towards_4 rfl (lv_at hl 1 rfl) ?_
      refine lv_bipush (v := 36) hx hb dX5_towards_5 (by decide) ?_
      refine lv_icmp_ge (tgt := 37) hx hb dX5_towards_7 (by decide) (fun c7_2 => ?_) (fun c7_2 => ?_)
      · have h36 : 36 ≤ i := (nI_geL (n := 36) rfl (by decide) (by omega)).mp c7_2
        obtain rfl : i = 36 := by omega
        refine lv_iload_n hx hb dX5_towards_37 rfl (lv_at hl 0 rfl) ?_
        exact hret _ _ _ _ _ _ hP hD hS (⟨tw_g, ⟨J, hM.eq (all14 rfl rfl rfl rfl rfl rfl rfl rfl rfl rfl rfl rfl rfl rfl)⟩, hf⟩) dX5_towards_38
      · have hlt : i < 36 := by have := mt (nI_geL (n := 36) (i := i) rfl (by decide) (by omega)).mpr c7_2; omega
        refine lv_iload_n hx hb dX5_towards_10 rfl (lv_at hl 0 rfl) ?_
        refine lv_aload_n hx hb dX5_towards_11 rfl (lv_at hl 2 rfl) ?_
        refine rg (v := .ref (ad (b + 1 + 0))) (T := TX5) (N := 14) (C := RX5) hx hb hts hinX5 hown hK hP hM rfl 0 (by decide) (hts (.fieldLink RX5 7 "NeedleGridModel" "now" "[I") (by decide +kernel)) rfl dX5_towards_12 ?_
        refine lv_bipush (v := 6) hx hb dX5_towards_15 (by decide) ?_
        refine lv_iload_n hx hb dX5_towards_17 rfl (lv_at hl 1 rfl) ?_
        refine lv_iadd hx hb dX5_towards_18 ?_
        rw [show 6 + nI i = nI (6 + i) from nI_add 6 i]
        refine ra (j := (6 + i)) (n := 186) hx hb hK hP hM 0 rfl (by omega) (by decide) dX5_towards_19 ?_
        refine lv_iload_n hx hb dX5_towards_20 rfl (lv_at hl 3 rfl) ?_
        refine lv_icmp_ne (tgt := 28) hx hb dX5_towards_21 (by decide) (fun c21_3 => ?_) (fun c21_3 => ?_)
        · have c21_3 : ¬ (N (6 + i)) = (nI d) := c21_3
          have hPi : (twP N (nI d)) i = false := twP_f c21_3
          refine lv_iconst (v := 0) hx hb dX5_towards_28 (by decide) ?_
          refine lv_iadd hx hb dX5_towards_29 ?_
          rw [show nI (cnI (twP N (nI d)) i) + 0 = nI (cnI (twP N (nI d)) i) from Int32.add_zero _]
          refine lv_istore_n (lv' := [(2, .int (nI (cnI (twP N (nI d)) i))), (3, .int (nI i)), (0, .ref (ad b)), (1, .int (nI d))]) hx hb dX5_towards_30 rfl hl (by decide) rfl (fun ls hl => ?_)
          refine lv_iinc (v := nI (i + 1)) (lv' := [(3, .int (nI (i + 1))), (2, .int (nI (cnI (twP N (nI d)) i))), (0, .ref (ad b)), (1, .int (nI d))]) hx hb dX5_towards_31 hl (k := 1) rfl (nI_1 _) (by decide) rfl (fun ls hl => ?_)
          refine lv_goto (tgt := 4) hx hb dX5_towards_34 (by decide) ?_
          exact ih4 (i + 1) (by omega) (by omega) _ _ _ _ hM hf hP hD hS (by rw [cnI_f hPi]; exact lv_sub hl [1, 0, 2, 3] rfl)
        · have c21_3 : (N (6 + i)) = (nI d) := c21_3
          have hPi : (twP N (nI d)) i = true := twP_t c21_3
          refine lv_iconst (v := 1) hx hb dX5_towards_24 (by decide) ?_
          refine lv_goto (tgt := 29) hx hb dX5_towards_25 (by decide) ?_
          refine lv_iadd hx hb dX5_towards_29 ?_
          rw [nI_1]
          refine lv_istore_n (lv' := [(2, .int (nI ((cnI (twP N (nI d)) i) + 1))), (3, .int (nI i)), (0, .ref (ad b)), (1, .int (nI d))]) hx hb dX5_towards_30 rfl hl (by decide) rfl (fun ls hl => ?_)
          refine lv_iinc (v := nI (i + 1)) (lv' := [(3, .int (nI (i + 1))), (2, .int (nI ((cnI (twP N (nI d)) i) + 1))), (0, .ref (ad b)), (1, .int (nI d))]) hx hb dX5_towards_31 hl (k := 1) rfl (nI_1 _) (by decide) rfl (fun ls hl => ?_)
          refine lv_goto (tgt := 4) hx hb dX5_towards_34 (by decide) ?_
          exact ih4 (i + 1) (by omega) (by omega) _ _ _ _ hM hf hP hD hS (by rw [cnI_t hPi]; exact lv_sub hl [1, 0, 2, 3] rfl)
  exact LP_1 (36 + 1) 0 (Nat.zero_le _) (by omega) _ _ _ _ hM hf hP hD hS (lv_sub hl [1, 0, 2, 3] rfl)

set_option maxHeartbeats 4000000 in
set_option maxRecDepth 100000 in
theorem m_ofCell (l : Launch) (E : NE) (ad : Nat → Nat) (st : NW) (b : Nat) (N P : Nat → Int32) (kp : Nat) (C : Nat → Int32) (n : Nat) (th : Int32) (J : Nat → Nat → Int32) (hkp : kp ≤ 6) (hn : n ≤ 60) (hO : okN N) (hM : isR E ad st b sM (mG N P kp C n th J)) (c w : Nat) (hc : c < 36) (hw : w < 8) : nMi l yX5_ofCell wsX5_ofCell (nRm 7 166) E ad st [.ref (ad b), .int (nI c), .int (nI w)] (fun r s1 => r = cellA N c w ∧ (∃ J1, isR E ad s1 b sM (mG N P kp C n th J1)) ∧ fr b st s1) := by
  refine nSi (cc := cX5_ofCell) (maxL := 4) (by decide) rfl (Nat.le_of_ble_eq_true rfl) ?_
  intro pg en s mi ar bw mth cd R Q A ls hx hb hml hown hts hRm hP hK hD hZ hA hl hret
  subst hRm
  have hown : s.vm.findClass RX5 = some mi.cls := hown
  have hS : va_S A s.heap s.heap [] := va_S.rf
  have hl : lv_has ls 4 [(0, .ref (ad b)), (1, .int (nI c)), (2, .int (nI w))] := hl
  have hf : fr b st st := fr.rf
  have hdB := hO.1.b
  have hinX5 : ∀ w ∈ wsX50, w ∈ wsX5_ofCell := by decide +kernel
  refine lv_aload_n hx hb dX5_ofCell_0 rfl (lv_at hl 0 rfl) ?_
  refine lv_aload_n hx hb dX5_ofCell_1 rfl (lv_at hl 0 rfl) ?_
  refine rg (v := .ref (ad (b + 1 + 0))) (T := TX5) (N := 14) (C := RX5) hx hb hts hinX5 hown hK hP hM rfl 0 (by decide) (hts (.fieldLink RX5 7 "NeedleGridModel" "now" "[I") (by decide +kernel)) rfl dX5_ofCell_2 ?_
  refine lv_iload_n hx hb dX5_ofCell_5 rfl (lv_at hl 1 rfl) ?_
  refine nVi (As := [.ref (ad (b + 1 + 0)), .int (nI c)]) (rest := _) hx hb hml hown hts hP hK hD hZ hA hS ⟨Nat.zero_le _, Nat.zero_le _⟩ hM.1 rfl (m_aim0 l E ad st b (mG N P kp C n th J) hM c (by omega) hdB) (cwV 2 hts gX5_ofCell_X5_aim rfl rfl rfl (by decide +kernel) ⟨Nat.le_of_ble_eq_true rfl, Nat.le_of_ble_eq_true rfl⟩) hl.1 rfl (Nat.le_of_ble_eq_true rfl) dX5_ofCell_6 (fun r_1 s_3 H locs hq hP hD hS => ?_)
  obtain ⟨hrr_1, hM, hf_2⟩ := hq
  have hrr_1 : r_1 = mAim N c := hrr_1
  have hf := hf.tr hf_2
  refine lv_istore_n (lv' := [(3, .int r_1), (0, .ref (ad b)), (1, .int (nI c)), (2, .int (nI w))]) hx hb dX5_ofCell_9 rfl hl (by decide) rfl (fun ls hl => ?_)
  refine lv_iload_n hx hb dX5_ofCell_10 rfl (lv_at hl 3 rfl) ?_
  rcases (show w = 0 ∨ w = 1 ∨ w = 2 ∨ w = 3 ∨ w = 4 ∨ w = 5 ∨ w = 6 ∨ w = 7 by omega) with rfl | rfl | rfl | rfl | rfl | rfl | rfl | rfl
  · refine lv_tableIn (x := nI 0) (off := 41) (tgt := 52) hx hb dX5_ofCell_11 (by decide) (by decide) rfl (by decide) ?_
    refine lv_aload_n hx hb dX5_ofCell_52 rfl (lv_at hl 1 rfl) ?_
    refine rg (v := .ref (ad (b + 1 + 0))) (T := TX5) (N := 14) (C := RX5) hx hb hts hinX5 hown hK hP hM rfl 0 (by decide) (hts (.fieldLink RX5 7 "NeedleGridModel" "now" "[I") (by decide +kernel)) rfl dX5_ofCell_53 ?_
    refine lv_bipush (v := 6) hx hb dX5_ofCell_56 (by decide) ?_
    refine lv_iload_n hx hb dX5_ofCell_58 rfl (lv_at hl 2 rfl) ?_
    refine lv_iadd hx hb dX5_ofCell_59 ?_
    rw [show 6 + nI c = nI (6 + c) from nI_add 6 c]
    refine ra (j := (6 + c)) (n := 186) hx hb hK hP hM 0 rfl (by omega) (by decide) dX5_ofCell_60 ?_
    exact hret _ _ _ _ _ _ hP hD hS (⟨rfl, ⟨(gu (gu J 12 (fun _ => LX N c)) 13 (fun _ => LY N c)), hM.eq (all14 rfl rfl rfl rfl rfl rfl rfl rfl rfl rfl rfl rfl rfl rfl)⟩, hf⟩) dX5_ofCell_61
  · refine lv_tableIn (x := nI 1) (off := 51) (tgt := 62) hx hb dX5_ofCell_11 (by decide) (by decide) rfl (by decide) ?_
    refine lv_aload_n hx hb dX5_ofCell_62 rfl (lv_at hl 1 rfl) ?_
    refine rg (v := .ref (ad (b + 1 + 0))) (T := TX5) (N := 14) (C := RX5) hx hb hts hinX5 hown hK hP hM rfl 0 (by decide) (hts (.fieldLink RX5 7 "NeedleGridModel" "now" "[I") (by decide +kernel)) rfl dX5_ofCell_63 ?_
    refine lv_bipush (v := 42) hx hb dX5_ofCell_66 (by decide) ?_
    refine lv_iload_n hx hb dX5_ofCell_68 rfl (lv_at hl 2 rfl) ?_
    refine lv_iadd hx hb dX5_ofCell_69 ?_
    rw [show 42 + nI c = nI (42 + c) from nI_add 42 c]
    refine ra (j := (42 + c)) (n := 186) hx hb hK hP hM 0 rfl (by omega) (by decide) dX5_ofCell_70 ?_
    exact hret _ _ _ _ _ _ hP hD hS (⟨rfl, ⟨(gu (gu J 12 (fun _ => LX N c)) 13 (fun _ => LY N c)), hM.eq (all14 rfl rfl rfl rfl rfl rfl rfl rfl rfl rfl rfl rfl rfl rfl)⟩, hf⟩) dX5_ofCell_71
  · refine lv_tableIn (x := nI 2) (off := 61) (tgt := 72) hx hb dX5_ofCell_11 (by decide) (by decide) rfl (by decide) ?_
    refine lv_aload_n hx hb dX5_ofCell_72 rfl (lv_at hl 1 rfl) ?_
    refine rg (v := .ref (ad (b + 1 + 0))) (T := TX5) (N := 14) (C := RX5) hx hb hts hinX5 hown hK hP hM rfl 0 (by decide) (hts (.fieldLink RX5 7 "NeedleGridModel" "now" "[I") (by decide +kernel)) rfl dX5_ofCell_73 ?_
    refine lv_bipush (v := 78) hx hb dX5_ofCell_76 (by decide) ?_
    refine lv_iload_n hx hb dX5_ofCell_78 rfl (lv_at hl 2 rfl) ?_
    refine lv_iadd hx hb dX5_ofCell_79 ?_
    rw [show 78 + nI c = nI (78 + c) from nI_add 78 c]
    refine ra (j := (78 + c)) (n := 186) hx hb hK hP hM 0 rfl (by omega) (by decide) dX5_ofCell_80 ?_
    exact hret _ _ _ _ _ _ hP hD hS (⟨rfl, ⟨(gu (gu J 12 (fun _ => LX N c)) 13 (fun _ => LY N c)), hM.eq (all14 rfl rfl rfl rfl rfl rfl rfl rfl rfl rfl rfl rfl rfl rfl)⟩, hf⟩) dX5_ofCell_81
  · refine lv_tableIn (x := nI 3) (off := 71) (tgt := 82) hx hb dX5_ofCell_11 (by decide) (by decide) rfl (by decide) ?_
    refine lv_aload_n hx hb dX5_ofCell_82 rfl (lv_at hl 1 rfl) ?_
    refine rg (v := .int (LX N c)) (T := TX5) (N := 14) (C := RX5) hx hb hts hinX5 hown hK hP hM rfl 12 (by decide) (hts (.fieldLink RX5 47 "NeedleGridModel" "fx" "I") (by decide +kernel)) rfl dX5_ofCell_83 ?_
    refine lv_ldc (v := 100000) hx hb hown (hts (.constant RX5 136 100000) (by decide +kernel)) dX5_ofCell_86 ?_
    refine lv_iadd hx hb dX5_ofCell_88 ?_
    exact hret _ _ _ _ _ _ hP hD hS (⟨cA3 hO hc, ⟨(gu (gu J 12 (fun _ => LX N c)) 13 (fun _ => LY N c)), hM.eq (all14 rfl rfl rfl rfl rfl rfl rfl rfl rfl rfl rfl rfl rfl rfl)⟩, hf⟩) dX5_ofCell_89
  · refine lv_tableIn (x := nI 4) (off := 79) (tgt := 90) hx hb dX5_ofCell_11 (by decide) (by decide) rfl (by decide) ?_
    refine lv_aload_n hx hb dX5_ofCell_90 rfl (lv_at hl 1 rfl) ?_
    refine rg (v := .int (LY N c)) (T := TX5) (N := 14) (C := RX5) hx hb hts hinX5 hown hK hP hM rfl 13 (by decide) (hts (.fieldLink RX5 53 "NeedleGridModel" "fy" "I") (by decide +kernel)) rfl dX5_ofCell_91 ?_
    refine lv_ldc (v := 100000) hx hb hown (hts (.constant RX5 136 100000) (by decide +kernel)) dX5_ofCell_94 ?_
    refine lv_iadd hx hb dX5_ofCell_96 ?_
    exact hret _ _ _ _ _ _ hP hD hS (⟨cA4 hO hc, ⟨(gu (gu J 12 (fun _ => LX N c)) 13 (fun _ => LY N c)), hM.eq (all14 rfl rfl rfl rfl rfl rfl rfl rfl rfl rfl rfl rfl rfl rfl)⟩, hf⟩) dX5_ofCell_97
  · refine lv_tableIn (x := nI 5) (off := 87) (tgt := 98) hx hb dX5_ofCell_11 (by decide) (by decide) rfl (by decide) ?_
    refine lv_iload_n hx hb dX5_ofCell_98 rfl (lv_at hl 0 rfl) ?_
    exact hret _ _ _ _ _ _ hP hD hS (⟨hrr_1.trans (cA5 hO hc), ⟨(gu (gu J 12 (fun _ => LX N c)) 13 (fun _ => LY N c)), hM.eq (all14 rfl rfl rfl rfl rfl rfl rfl rfl rfl rfl rfl rfl rfl rfl)⟩, hf⟩) dX5_ofCell_99
  · refine lv_tableIn (x := nI 6) (off := 89) (tgt := 100) hx hb dX5_ofCell_11 (by decide) (by decide) rfl (by decide) ?_
    refine lv_aload_n hx hb dX5_ofCell_100 rfl (lv_at hl 1 rfl) ?_
    refine lv_aload_n hx hb dX5_ofCell_101 rfl (lv_at hl 1 rfl) ?_
    refine rg (v := .ref (ad (b + 1 + 0))) (T := TX5) (N := 14) (C := RX5) hx hb hts hinX5 hown hK hP hM rfl 0 (by decide) (hts (.fieldLink RX5 7 "NeedleGridModel" "now" "[I") (by decide +kernel)) rfl dX5_ofCell_102 ?_
    refine lv_iload_n hx hb dX5_ofCell_105 rfl (lv_at hl 2 rfl) ?_
    refine nVi (As := [.ref (ad (b + 1 + 0)), .int (nI c)]) (rest := _) hx hb hml hown hts hP hK hD hZ hA hS ⟨Nat.zero_le _, Nat.zero_le _⟩ hM.1 rfl (m_turned0 l E ad s_3 b (gu (gu (mG N P kp C n th J) 12 (fun _ => LX N c)) 13 (fun _ => LY N c)) hM c (by omega) hdB) (cwV 2 hts gX5_ofCell_X5_turned rfl rfl rfl (by decide +kernel) ⟨Nat.le_of_ble_eq_true rfl, Nat.le_of_ble_eq_true rfl⟩) hl.1 rfl (Nat.le_of_ble_eq_true rfl) dX5_ofCell_106 (fun r_4 s_6 H locs hq hP hD hS => ?_)
    obtain ⟨hrr_4, hM, hf_5⟩ := hq
    have hrr_4 : r_4 = mTu N c := hrr_4
    have hf := hf.tr hf_5
    have hM : isR E ad s_6 b sM (gu (gu (mG N P kp C n th J) 12 (fun _ => LX N c)) 13 (fun _ => LY N c)) := hM.eq (all14 rfl rfl rfl rfl rfl rfl rfl rfl rfl rfl rfl rfl rfl rfl)
    refine lv_aload_n hx hb dX5_ofCell_109 rfl (lv_at hl 1 rfl) ?_
    refine rg (v := .ref (ad (b + 1 + 0))) (T := TX5) (N := 14) (C := RX5) hx hb hts hinX5 hown hK hP hM rfl 0 (by decide) (hts (.fieldLink RX5 7 "NeedleGridModel" "now" "[I") (by decide +kernel)) rfl dX5_ofCell_110 ?_
    refine lv_bipush (v := 6) hx hb dX5_ofCell_113 (by decide) ?_
    refine lv_iload_n hx hb dX5_ofCell_115 rfl (lv_at hl 2 rfl) ?_
    refine lv_iadd hx hb dX5_ofCell_116 ?_
    rw [show 6 + nI c = nI (6 + c) from nI_add 6 c]
    refine ra (j := (6 + c)) (n := 186) hx hb hK hP hM 0 rfl (by omega) (by decide) dX5_ofCell_117 ?_
    refine lv_icmp_ne (tgt := 125) hx hb dX5_ofCell_118 (by decide) (fun c118_6 => ?_) (fun c118_6 => ?_)
    · have c118_6 : ¬ r_4 = (N (6 + c)) := c118_6
      refine lv_iconst (v := 1) hx hb dX5_ofCell_125 (by decide) ?_
      exact hret _ _ _ _ _ _ hP hD hS (⟨(by rw [← cA6 hO hc, if_neg (by rw [← hrr_4]; exact c118_6)]), ⟨(gu (gu J 12 (fun _ => LX N c)) 13 (fun _ => LY N c)), hM.eq (all14 rfl rfl rfl rfl rfl rfl rfl rfl rfl rfl rfl rfl rfl rfl)⟩, hf⟩) dX5_ofCell_126
    · have c118_6 : r_4 = (N (6 + c)) := c118_6
      refine lv_iconst (v := 0) hx hb dX5_ofCell_121 (by decide) ?_
      refine lv_goto (tgt := 126) hx hb dX5_ofCell_122 (by decide) ?_
      exact hret _ _ _ _ _ _ hP hD hS (⟨(by rw [← cA6 hO hc, if_pos (by rw [← hrr_4]; exact c118_6)]), ⟨(gu (gu J 12 (fun _ => LX N c)) 13 (fun _ => LY N c)), hM.eq (all14 rfl rfl rfl rfl rfl rfl rfl rfl rfl rfl rfl rfl rfl rfl)⟩, hf⟩) dX5_ofCell_126
  · refine lv_tableOut (x := nI 7) (tgt := 127) hx hb dX5_ofCell_11 (Or.inr (by decide)) (by decide) ?_
    refine lv_aload_n hx hb dX5_ofCell_127 rfl (lv_at hl 1 rfl) ?_
    refine lv_aload_n hx hb dX5_ofCell_128 rfl (lv_at hl 1 rfl) ?_
    refine rg (v := .ref (ad (b + 1 + 0))) (T := TX5) (N := 14) (C := RX5) hx hb hts hinX5 hown hK hP hM rfl 0 (by decide) (hts (.fieldLink RX5 7 "NeedleGridModel" "now" "[I") (by decide +kernel)) rfl dX5_ofCell_129 ?_
    refine lv_iload_n hx hb dX5_ofCell_132 rfl (lv_at hl 2 rfl) ?_
    refine nVi (As := [.ref (ad (b + 1 + 0)), .int (nI c)]) (rest := _) hx hb hml hown hts hP hK hD hZ hA hS ⟨Nat.zero_le _, Nat.zero_le _⟩ hM.1 rfl (m_away0 l E ad s_3 b (gu (gu (mG N P kp C n th J) 12 (fun _ => LX N c)) 13 (fun _ => LY N c)) hM c (by omega) hdB) (cwV 2 hts gX5_ofCell_X5_away rfl rfl rfl (by decide +kernel) ⟨Nat.le_of_ble_eq_true rfl, Nat.le_of_ble_eq_true rfl⟩) hl.1 rfl (Nat.le_of_ble_eq_true rfl) dX5_ofCell_133 (fun r_8 s_10 H locs hq hP hD hS => ?_)
    obtain ⟨hrr_8, hM, hf_9⟩ := hq
    have hrr_8 : r_8 = mAw N c := hrr_8
    have hf := hf.tr hf_9
    have hM : isR E ad s_10 b sM (gu (gu (mG N P kp C n th J) 12 (fun _ => LX N c)) 13 (fun _ => LY N c)) := hM.eq (all14 rfl rfl rfl rfl rfl rfl rfl rfl rfl rfl rfl rfl rfl rfl)
    exact hret _ _ _ _ _ _ hP hD hS (⟨hrr_8.trans (cA7 hO hc), ⟨(gu (gu J 12 (fun _ => LX N c)) 13 (fun _ => LY N c)), hM.eq (all14 rfl rfl rfl rfl rfl rfl rfl rfl rfl rfl rfl rfl rfl rfl)⟩, hf⟩) dX5_ofCell_136

set_option maxHeartbeats 4000000 in
set_option maxRecDepth 100000 in
theorem m_ofBar (l : Launch) (E : NE) (ad : Nat → Nat) (st : NW) (b : Nat) (N P : Nat → Int32) (kp : Nat) (C : Nat → Int32) (n : Nat) (th : Int32) (J : Nat → Nat → Int32) (hkp : kp ≤ 6) (hn : n ≤ 60) (hO : okN N) (hM : isR E ad st b sM (mG N P kp C n th J)) (pl : Int32) (w : Nat) (hw : w < 3) : nMi l yX5_ofBar wsX5_ofBar (nRm 0 0) E ad st [.ref (ad b), .int pl, .int (nI w)] (fun r s1 => r = barA N pl w ∧ (∃ J1, isR E ad s1 b sM (mG N P kp C n th J1)) ∧ fr b st s1) := by
  refine nSi (cc := cX5_ofBar) (maxL := 5) (by decide) rfl (Nat.le_of_ble_eq_true rfl) ?_
  intro pg en s mi ar bw mth cd R Q A ls hx hb hml hown hts hRm hP hK hD hZ hA hl hret
  subst hRm
  have hown : s.vm.findClass RX5 = some mi.cls := hown
  have hS : va_S A s.heap s.heap [] := va_S.rf
  have hl : lv_has ls 5 [(0, .ref (ad b)), (1, .int pl), (2, .int (nI w))] := hl
  have hf : fr b st st := fr.rf
  have hdB := hO.1.b
  have hinX5 : ∀ w ∈ wsX50, w ∈ wsX5_ofBar := by decide +kernel
  refine lv_iconst (v := 0) hx hb dX5_ofBar_0 (by decide) ?_
  refine lv_istore_n (lv' := [(3, .int 0), (0, .ref (ad b)), (1, .int pl), (2, .int (nI w))]) hx hb dX5_ofBar_1 rfl hl (by decide) rfl (fun ls hl => ?_)
  refine lv_iconst (v := 0) hx hb dX5_ofBar_2 (by decide) ?_
  refine lv_istore (lv' := [(4, .int 0), (3, .int 0), (0, .ref (ad b)), (1, .int pl), (2, .int (nI w))]) hx hb dX5_ofBar_3 hl (by decide) rfl (fun ls hl => ?_)
  have LP_1 : ∀ (k9 i : Nat), i ≤ 36 → 36 - i < k9 → ∀ (sL_2 : NW) (H : Heap) (locs : List Loc) (ls : Array Slot), isR E ad sL_2 b sM ((mG N P kp C n th J)) → fr b st sL_2 → fndB (barP N) pl 36 0 = fndB (barP N) pl (36 - i) i → nP E ad sL_2 H → nD A ad sL_2 → va_S A s.heap H locs → lv_has ls 5 [(3, .int (nI (cnI (barP N) i))), (4, .int (nI i)), (0, .ref (ad b)), (1, .int pl), (2, .int (nI w))] → W pg l en (nRm 0 0) s mi ar bw mth cd H locs 0 0 Q (F0 mi 5 ls []) := by
    intro k9
    induction k9 with
    | zero => intro i _ h9; exact absurd h9 (Nat.not_lt_zero _)
    | succ k9 ih5 =>
      intro i hi hk9 sL_2 H locs ls hM hf hfn hP hD hS hl
      refine lv_iload hx hb dX5_ofBar_5 (lv_at hl 1 rfl) ?_
      refine lv_bipush (v := 36) hx hb dX5_ofBar_7 (by decide) ?_
      refine lv_icmp_ge (tgt := 98) hx hb dX5_ofBar_9 (by decide) (fun c9_2 => ?_) (fun c9_2 => ?_)
      · have h36 : 36 ≤ i := (nI_geL (n := 36) rfl (by decide) (by omega)).mp c9_2
        obtain rfl : i = 36 := by omega
        refine lv_iconst (v := -1) hx hb dX5_ofBar_98 (by decide) ?_
        exact hret _ _ _ _ _ _ hP hD hS (⟨(barA_no hfn).symm, ⟨J, hM.eq (all14 rfl rfl rfl rfl rfl rfl rfl rfl rfl rfl rfl rfl rfl rfl)⟩, hf⟩) dX5_ofBar_99
      · have hlt : i < 36 := by have := mt (nI_geL (n := 36) (i := i) rfl (by decide) (by omega)).mpr c9_2; omega
        refine lv_aload_n hx hb dX5_ofBar_12 rfl (lv_at hl 2 rfl) ?_
        refine rg (v := .ref (ad (b + 1 + 0))) (T := TX5) (N := 14) (C := RX5) hx hb hts hinX5 hown hK hP hM rfl 0 (by decide) (hts (.fieldLink RX5 7 "NeedleGridModel" "now" "[I") (by decide +kernel)) rfl dX5_ofBar_13 ?_
        refine lv_sipush (v := 150) hx hb dX5_ofBar_16 (by decide) ?_
        refine lv_iload hx hb dX5_ofBar_19 (lv_at hl 1 rfl) ?_
        refine lv_iadd hx hb dX5_ofBar_21 ?_
        rw [show 150 + nI i = nI (150 + i) from nI_add 150 i]
        refine ra (j := (150 + i)) (n := 186) hx hb hK hP hM 0 rfl (by omega) (by decide) dX5_ofBar_22 ?_
        refine lv_if_le (tgt := 70) hx hb dX5_ofBar_23 (by decide) (fun c23_3 => ?_) (fun c23_3 => ?_)
        · have c23_3 : (N (150 + i)) ≤ 0 := c23_3
          have hPi : (barP N) i = false := barP_f c23_3
          have hst : ∀ q, (if (barP N) i = true then (if nI (cnI (barP N) i) = pl then nI i else q) else q) = q := by intro q; rw [hPi]; simp
          refine lv_iload_n hx hb dX5_ofBar_70 rfl (lv_at hl 0 rfl) ?_
          refine lv_aload_n hx hb dX5_ofBar_71 rfl (lv_at hl 2 rfl) ?_
          refine rg (v := .ref (ad (b + 1 + 0))) (T := TX5) (N := 14) (C := RX5) hx hb hts hinX5 hown hK hP hM rfl 0 (by decide) (hts (.fieldLink RX5 7 "NeedleGridModel" "now" "[I") (by decide +kernel)) rfl dX5_ofBar_72 ?_
          refine lv_sipush (v := 150) hx hb dX5_ofBar_75 (by decide) ?_
          refine lv_iload hx hb dX5_ofBar_78 (lv_at hl 1 rfl) ?_
          refine lv_iadd hx hb dX5_ofBar_80 ?_
          rw [show 150 + nI i = nI (150 + i) from nI_add 150 i]
          refine ra (j := (150 + i)) (n := 186) hx hb hK hP hM 0 rfl (by omega) (by decide) dX5_ofBar_81 ?_
          refine lv_if_le (tgt := 89) hx hb dX5_ofBar_82 (by decide) (fun c82_4 => ?_) (fun c82_4 => absurd c23_3 c82_4)
          refine lv_iconst (v := 0) hx hb dX5_ofBar_89 (by decide) ?_
          refine lv_iadd hx hb dX5_ofBar_90 ?_
          rw [show nI (cnI (barP N) i) + 0 = nI (cnI (barP N) i) from Int32.add_zero _]
          refine lv_istore_n (lv' := [(3, .int (nI (cnI (barP N) i))), (4, .int (nI i)), (0, .ref (ad b)), (1, .int pl), (2, .int (nI w))]) hx hb dX5_ofBar_91 rfl hl (by decide) rfl (fun ls hl => ?_)
          refine lv_iinc (v := nI (i + 1)) (lv' := [(4, .int (nI (i + 1))), (3, .int (nI (cnI (barP N) i))), (0, .ref (ad b)), (1, .int pl), (2, .int (nI w))]) hx hb dX5_ofBar_92 hl (k := 1) rfl (nI_1 _) (by decide) rfl (fun ls hl => ?_)
          refine lv_goto (tgt := 5) hx hb dX5_ofBar_95 (by decide) ?_
          exact ih5 (i + 1) (by omega) (by omega) _ _ _ _ hM hf (by rw [hfn, show 36 - i = (36 - (i + 1)) + 1 by omega]; simp only [fndB, hst]) hP hD hS (by rw [cnI_f hPi]; exact lv_sub hl [1, 0, 2, 3, 4] rfl)
        · have c23_3 : ¬ (N (150 + i)) ≤ 0 := c23_3
          have hPi : (barP N) i = true := barP_t c23_3
          refine lv_iload_n hx hb dX5_ofBar_26 rfl (lv_at hl 0 rfl) ?_
          refine lv_iload_n hx hb dX5_ofBar_27 rfl (lv_at hl 3 rfl) ?_
          refine lv_icmp_ne (tgt := 70) hx hb dX5_ofBar_28 (by decide) (fun c28_6 => ?_) (fun c28_6 => ?_)
          · have hst : ∀ q, (if (barP N) i = true then (if nI (cnI (barP N) i) = pl then nI i else q) else q) = q := by intro q; rw [hPi, if_pos rfl, if_neg c28_6]
            refine lv_iload_n hx hb dX5_ofBar_70 rfl (lv_at hl 0 rfl) ?_
            refine lv_aload_n hx hb dX5_ofBar_71 rfl (lv_at hl 2 rfl) ?_
            refine rg (v := .ref (ad (b + 1 + 0))) (T := TX5) (N := 14) (C := RX5) hx hb hts hinX5 hown hK hP hM rfl 0 (by decide) (hts (.fieldLink RX5 7 "NeedleGridModel" "now" "[I") (by decide +kernel)) rfl dX5_ofBar_72 ?_
            refine lv_sipush (v := 150) hx hb dX5_ofBar_75 (by decide) ?_
            refine lv_iload hx hb dX5_ofBar_78 (lv_at hl 1 rfl) ?_
            refine lv_iadd hx hb dX5_ofBar_80 ?_
            rw [show 150 + nI i = nI (150 + i) from nI_add 150 i]
            refine ra (j := (150 + i)) (n := 186) hx hb hK hP hM 0 rfl (by omega) (by decide) dX5_ofBar_81 ?_
            refine lv_if_le (tgt := 89) hx hb dX5_ofBar_82 (by decide) (fun c82_7 => absurd c82_7 c23_3) (fun c82_7 => ?_)
            refine lv_iconst (v := 1) hx hb dX5_ofBar_85 (by decide) ?_
            refine lv_goto (tgt := 90) hx hb dX5_ofBar_86 (by decide) ?_
            refine lv_iadd hx hb dX5_ofBar_90 ?_
            rw [nI_1]
            refine lv_istore_n (lv' := [(3, .int (nI ((cnI (barP N) i) + 1))), (4, .int (nI i)), (0, .ref (ad b)), (1, .int pl), (2, .int (nI w))]) hx hb dX5_ofBar_91 rfl hl (by decide) rfl (fun ls hl => ?_)
            refine lv_iinc (v := nI (i + 1)) (lv' := [(4, .int (nI (i + 1))), (3, .int (nI ((cnI (barP N) i) + 1))), (0, .ref (ad b)), (1, .int pl), (2, .int (nI w))]) hx hb dX5_ofBar_92 hl (k := 1) rfl (nI_1 _) (by decide) rfl (fun ls hl => ?_)
            refine lv_goto (tgt := 5) hx hb dX5_ofBar_95 (by decide) ?_
            exact ih5 (i + 1) (by omega) (by omega) _ _ _ _ hM hf (by rw [hfn, show 36 - i = (36 - (i + 1)) + 1 by omega]; simp only [fndB, hst]) hP hD hS (by rw [cnI_t hPi]; exact lv_sub hl [1, 0, 2, 3, 4] rfl)
          · have hfd : fndB (barP N) pl 36 0 = nI i := by rw [hfn, show 36 - i = (36 - (i + 1)) + 1 by omega]; simp only [fndB]; rw [if_pos hPi, if_pos c28_6]
            rcases (show w = 0 ∨ w = 1 ∨ w = 2 by omega) with rfl | rfl | rfl
            · refine lv_iload_n hx hb dX5_ofBar_31 rfl (lv_at hl 4 rfl) ?_
              refine lv_if_ne (tgt := 40) hx hb dX5_ofBar_32 (by decide) (fun c32_9 => absurd (by decide) c32_9) (fun c32_9 => ?_)
              refine lv_iload hx hb dX5_ofBar_35 (lv_at hl 1 rfl) ?_
              refine lv_goto (tgt := 69) hx hb dX5_ofBar_37 (by decide) ?_
              exact hret _ _ _ _ _ _ hP hD hS (⟨(barA_yes (w := 0) hlt hfd).symm, ⟨J, hM.eq (all14 rfl rfl rfl rfl rfl rfl rfl rfl rfl rfl rfl rfl rfl rfl)⟩, hf⟩) dX5_ofBar_69
            · refine lv_iload_n hx hb dX5_ofBar_31 rfl (lv_at hl 4 rfl) ?_
              refine lv_if_ne (tgt := 40) hx hb dX5_ofBar_32 (by decide) (fun c32_10 => ?_) (fun c32_10 => absurd c32_10 (by decide))
              refine lv_iload_n hx hb dX5_ofBar_40 rfl (lv_at hl 4 rfl) ?_
              refine lv_iconst (v := 1) hx hb dX5_ofBar_41 (by decide) ?_
              refine lv_icmp_ne (tgt := 58) hx hb dX5_ofBar_42 (by decide) (fun c42_11 => absurd (by decide) c42_11) (fun c42_11 => ?_)
              refine lv_aload_n hx hb dX5_ofBar_45 rfl (lv_at hl 2 rfl) ?_
              refine rg (v := .ref (ad (b + 1 + 0))) (T := TX5) (N := 14) (C := RX5) hx hb hts hinX5 hown hK hP hM rfl 0 (by decide) (hts (.fieldLink RX5 7 "NeedleGridModel" "now" "[I") (by decide +kernel)) rfl dX5_ofBar_46 ?_
              refine lv_bipush (v := 114) hx hb dX5_ofBar_49 (by decide) ?_
              refine lv_iload hx hb dX5_ofBar_51 (lv_at hl 1 rfl) ?_
              refine lv_iadd hx hb dX5_ofBar_53 ?_
              rw [show 114 + nI i = nI (114 + i) from nI_add 114 i]
              refine ra (j := (114 + i)) (n := 186) hx hb hK hP hM 0 rfl (by omega) (by decide) dX5_ofBar_54 ?_
              refine lv_goto (tgt := 69) hx hb dX5_ofBar_55 (by decide) ?_
              exact hret _ _ _ _ _ _ hP hD hS (⟨(barA_yes (w := 1) hlt hfd).symm, ⟨J, hM.eq (all14 rfl rfl rfl rfl rfl rfl rfl rfl rfl rfl rfl rfl rfl rfl)⟩, hf⟩) dX5_ofBar_69
            · refine lv_iload_n hx hb dX5_ofBar_31 rfl (lv_at hl 4 rfl) ?_
              refine lv_if_ne (tgt := 40) hx hb dX5_ofBar_32 (by decide) (fun c32_12 => ?_) (fun c32_12 => absurd c32_12 (by decide))
              refine lv_iload_n hx hb dX5_ofBar_40 rfl (lv_at hl 4 rfl) ?_
              refine lv_iconst (v := 1) hx hb dX5_ofBar_41 (by decide) ?_
              refine lv_icmp_ne (tgt := 58) hx hb dX5_ofBar_42 (by decide) (fun c42_13 => ?_) (fun c42_13 => absurd c42_13 (by decide))
              refine lv_aload_n hx hb dX5_ofBar_58 rfl (lv_at hl 2 rfl) ?_
              refine rg (v := .ref (ad (b + 1 + 0))) (T := TX5) (N := 14) (C := RX5) hx hb hts hinX5 hown hK hP hM rfl 0 (by decide) (hts (.fieldLink RX5 7 "NeedleGridModel" "now" "[I") (by decide +kernel)) rfl dX5_ofBar_59 ?_
              refine lv_sipush (v := 150) hx hb dX5_ofBar_62 (by decide) ?_
              refine lv_iload hx hb dX5_ofBar_65 (lv_at hl 1 rfl) ?_
              refine lv_iadd hx hb dX5_ofBar_67 ?_
              rw [show 150 + nI i = nI (150 + i) from nI_add 150 i]
              refine ra (j := (150 + i)) (n := 186) hx hb hK hP hM 0 rfl (by omega) (by decide) dX5_ofBar_68 ?_
              exact hret _ _ _ _ _ _ hP hD hS (⟨(barA_yes (w := 2) hlt hfd).symm, ⟨J, hM.eq (all14 rfl rfl rfl rfl rfl rfl rfl rfl rfl rfl rfl rfl rfl rfl)⟩, hf⟩) dX5_ofBar_69
  exact LP_1 (36 + 1) 0 (Nat.zero_le _) (by omega) _ _ _ _ hM hf rfl hP hD hS (lv_sub hl [1, 0, 2, 3, 4] rfl)

set_option maxHeartbeats 4000000 in
set_option maxRecDepth 100000 in
theorem m_counted (l : Launch) (E : NE) (ad : Nat → Nat) (st : NW) (b : Nat) (N P : Nat → Int32) (kp : Nat) (C : Nat → Int32) (n : Nat) (th : Int32) (J : Nat → Nat → Int32) (hkp : kp ≤ 6) (hn : n ≤ 60) (hO : okN N) (hM : isR E ad st b sM (mG N P kp C n th J)) (w : Nat) (hw : w < 9) : nMi l yX5_counted wsX5_counted (nRm 8 189) E ad st [.ref (ad b), .int (nI w)] (fun r s1 => r = cntA N kp w ∧ (∃ J1, isR E ad s1 b sM (mG N P kp C n th J1)) ∧ fr b st s1) := by
  refine nSi (cc := cX5_counted) (maxL := 5) (by decide) rfl (Nat.le_of_ble_eq_true rfl) ?_
  intro pg en s mi ar bw mth cd R Q A ls hx hb hml hown hts hRm hP hK hD hZ hA hl hret
  subst hRm
  have hown : s.vm.findClass RX5 = some mi.cls := hown
  have hS : va_S A s.heap s.heap [] := va_S.rf
  have hl : lv_has ls 5 [(0, .ref (ad b)), (1, .int (nI w))] := hl
  have hf : fr b st st := fr.rf
  have hdB := hO.1.b
  have hinX5 : ∀ w ∈ wsX50, w ∈ wsX5_counted := by decide +kernel
  refine lv_iload_n hx hb dX5_counted_0 rfl (lv_at hl 1 rfl) ?_
  rcases (show w = 0 ∨ w = 1 ∨ w = 2 ∨ w = 3 ∨ w = 4 ∨ w = 5 ∨ w = 6 ∨ w = 7 ∨ w = 8 by omega) with rfl | rfl | rfl | rfl | rfl | rfl | rfl | rfl | rfl
  · refine lv_tableIn (x := nI 0) (off := 51) (tgt := 52) hx hb dX5_counted_1 (by decide) (by decide) rfl (by decide) ?_
    refine lv_aload_n hx hb dX5_counted_52 rfl (lv_at hl 0 rfl) ?_
    refine rg (v := .ref (ad (b + 1 + 0))) (T := TX5) (N := 14) (C := RX5) hx hb hts hinX5 hown hK hP hM rfl 0 (by decide) (hts (.fieldLink RX5 7 "NeedleGridModel" "now" "[I") (by decide +kernel)) rfl dX5_counted_53 ?_
    refine lv_iconst (v := 3) hx hb dX5_counted_56 (by decide) ?_
    refine ra (j := 3) (n := 186) hx hb hK hP hM 0 rfl (by omega) (by decide) dX5_counted_57 ?_
    exact hret _ _ _ _ _ _ hP hD hS (⟨rfl, ⟨J, hM.eq (all14 rfl rfl rfl rfl rfl rfl rfl rfl rfl rfl rfl rfl rfl rfl)⟩, hf⟩) dX5_counted_58
  · refine lv_tableIn (x := nI 1) (off := 58) (tgt := 59) hx hb dX5_counted_1 (by decide) (by decide) rfl (by decide) ?_
    refine lv_aload_n hx hb dX5_counted_59 rfl (lv_at hl 0 rfl) ?_
    refine rg (v := .ref (ad (b + 1 + 0))) (T := TX5) (N := 14) (C := RX5) hx hb hts hinX5 hown hK hP hM rfl 0 (by decide) (hts (.fieldLink RX5 7 "NeedleGridModel" "now" "[I") (by decide +kernel)) rfl dX5_counted_60 ?_
    refine nS_i (As := [.ref (ad (b + 1 + 0))]) (rest := _) hx hb hml hown hts hP hK hD hZ hA hS ⟨Nat.zero_le _, Nat.zero_le _⟩ (m_lying l E ad st b (mG N P kp C n th J) hM ) (va_cwS 1 hts gX5_counted_X5_lying rfl rfl rfl (by decide +kernel) ⟨Nat.le_of_ble_eq_true rfl, Nat.le_of_ble_eq_true rfl⟩) hl.1 rfl (Nat.le_of_ble_eq_true rfl) dX5_counted_63 (fun r_1 s_3 H locs hq hP hD hS => ?_)
    obtain ⟨hrr_1, rfl⟩ := hq
    have hrr_1 : r_1 = nI (cnI (barP N) 36) := hrr_1
    exact hret _ _ _ _ _ _ hP hD hS (⟨hrr_1.trans (congrArg nI cnBar_g), ⟨J, hM.eq (all14 rfl rfl rfl rfl rfl rfl rfl rfl rfl rfl rfl rfl rfl rfl)⟩, hf⟩) dX5_counted_66
  · refine lv_tableIn (x := nI 2) (off := 66) (tgt := 67) hx hb dX5_counted_1 (by decide) (by decide) rfl (by decide) ?_
    refine lv_aload_n hx hb dX5_counted_67 rfl (lv_at hl 0 rfl) ?_
    refine rg (v := .ref (ad (b + 1 + 0))) (T := TX5) (N := 14) (C := RX5) hx hb hts hinX5 hown hK hP hM rfl 0 (by decide) (hts (.fieldLink RX5 7 "NeedleGridModel" "now" "[I") (by decide +kernel)) rfl dX5_counted_68 ?_
    refine lv_iconst (v := 4) hx hb dX5_counted_71 (by decide) ?_
    refine lv_iload_n hx hb dX5_counted_72 rfl (lv_at hl 1 rfl) ?_
    refine lv_iadd hx hb dX5_counted_73 ?_
    rw [show 4 + nI 2 = nI (4 + 2) from nI_add 4 2]
    refine lv_iconst (v := 2) hx hb dX5_counted_74 (by decide) ?_
    refine lv_isub hx hb dX5_counted_75 ?_
    rw [show nI (4 + 2) - 2 = nI 4 from by decide]
    refine ra (j := 4) (n := 186) hx hb hK hP hM 0 rfl (by omega) (by decide) dX5_counted_76 ?_
    exact hret _ _ _ _ _ _ hP hD hS (⟨rfl, ⟨J, hM.eq (all14 rfl rfl rfl rfl rfl rfl rfl rfl rfl rfl rfl rfl rfl rfl)⟩, hf⟩) dX5_counted_77
  · refine lv_tableIn (x := nI 3) (off := 66) (tgt := 67) hx hb dX5_counted_1 (by decide) (by decide) rfl (by decide) ?_
    refine lv_aload_n hx hb dX5_counted_67 rfl (lv_at hl 0 rfl) ?_
    refine rg (v := .ref (ad (b + 1 + 0))) (T := TX5) (N := 14) (C := RX5) hx hb hts hinX5 hown hK hP hM rfl 0 (by decide) (hts (.fieldLink RX5 7 "NeedleGridModel" "now" "[I") (by decide +kernel)) rfl dX5_counted_68 ?_
    refine lv_iconst (v := 4) hx hb dX5_counted_71 (by decide) ?_
    refine lv_iload_n hx hb dX5_counted_72 rfl (lv_at hl 1 rfl) ?_
    refine lv_iadd hx hb dX5_counted_73 ?_
    rw [show 4 + nI 3 = nI (4 + 3) from nI_add 4 3]
    refine lv_iconst (v := 2) hx hb dX5_counted_74 (by decide) ?_
    refine lv_isub hx hb dX5_counted_75 ?_
    rw [show nI (4 + 3) - 2 = nI 5 from by decide]
    refine ra (j := 5) (n := 186) hx hb hK hP hM 0 rfl (by omega) (by decide) dX5_counted_76 ?_
    exact hret _ _ _ _ _ _ hP hD hS (⟨rfl, ⟨J, hM.eq (all14 rfl rfl rfl rfl rfl rfl rfl rfl rfl rfl rfl rfl rfl rfl)⟩, hf⟩) dX5_counted_77
  · refine lv_tableIn (x := nI 4) (off := 82) (tgt := 83) hx hb dX5_counted_1 (by decide) (by decide) rfl (by decide) ?_
    refine lv_iconst (v := 0) hx hb dX5_counted_83 (by decide) ?_
    refine lv_istore_n (lv' := [(2, .int 0), (0, .ref (ad b)), (1, .int (nI 4))]) hx hb dX5_counted_84 rfl hl (by decide) rfl (fun ls hl => ?_)
    refine lv_iconst (v := 0) hx hb dX5_counted_85 (by decide) ?_
    refine lv_istore_n (lv' := [(3, .int 0), (2, .int 0), (0, .ref (ad b)), (1, .int (nI 4))]) hx hb dX5_counted_86 rfl hl (by decide) rfl (fun ls hl => ?_)
    have LP_4 : ∀ (k9 i : Nat), i ≤ 36 → 36 - i < k9 → ∀ (sL_5 : NW) (H : Heap) (locs : List Loc) (ls : Array Slot) (J9 : Nat → Nat → Int32), isR E ad sL_5 b sM ((mG N P kp C n th J9)) → fr b st sL_5 → nP E ad sL_5 H → nD A ad sL_5 → va_S A s.heap H locs → lv_has ls 5 [(2, .int (smI 0 (cntF N 4) i)), (3, .int (nI i)), (0, .ref (ad b)), (1, .int (nI 4))] → W pg l en (nRm 8 189) s mi ar bw mth cd H locs 0 0 Q (F0 mi 87 ls []) := by
      intro k9
      induction k9 with
      | zero => intro i _ h9; exact absurd h9 (Nat.not_lt_zero _)
      | succ k9 ih87 =>
        intro i hi hk9 sL_5 H locs ls J9 hM hf hP hD hS hl
        refine lv_iload_n hx hb dX5_counted_87 rfl (lv_at hl 1 rfl) ?_
        refine lv_bipush (v := 36) hx hb dX5_counted_88 (by decide) ?_
        refine lv_icmp_ge (tgt := 175) hx hb dX5_counted_90 (by decide) (fun c90_5 => ?_) (fun c90_5 => ?_)
        · have h36 : 36 ≤ i := (nI_geL (n := 36) rfl (by decide) (by omega)).mp c90_5
          obtain rfl : i = 36 := by omega
          refine lv_iload_n hx hb dX5_counted_175 rfl (lv_at hl 0 rfl) ?_
          exact hret _ _ _ _ _ _ hP hD hS (⟨cnt4 hO, ⟨J9, hM.eq (all14 rfl rfl rfl rfl rfl rfl rfl rfl rfl rfl rfl rfl rfl rfl)⟩, hf⟩) dX5_counted_176
        · have hlt : i < 36 := by have := mt (nI_geL (n := 36) (i := i) rfl (by decide) (by omega)).mpr c90_5; omega
          refine lv_aload_n hx hb dX5_counted_93 rfl (lv_at hl 2 rfl) ?_
          refine lv_aload_n hx hb dX5_counted_94 rfl (lv_at hl 2 rfl) ?_
          refine rg (v := .ref (ad (b + 1 + 0))) (T := TX5) (N := 14) (C := RX5) hx hb hts hinX5 hown hK hP hM rfl 0 (by decide) (hts (.fieldLink RX5 7 "NeedleGridModel" "now" "[I") (by decide +kernel)) rfl dX5_counted_95 ?_
          refine lv_iload_n hx hb dX5_counted_98 rfl (lv_at hl 1 rfl) ?_
          refine nVi (As := [.ref (ad (b + 1 + 0)), .int (nI i)]) (rest := _) hx hb hml hown hts hP hK hD hZ hA hS ⟨Nat.zero_le _, Nat.zero_le _⟩ hM.1 rfl (m_away0 l E ad sL_5 b (mG N P kp C n th J9) hM i (by omega) hdB) (cwV 2 hts gX5_counted_X5_away rfl rfl rfl (by decide +kernel) ⟨Nat.le_of_ble_eq_true rfl, Nat.le_of_ble_eq_true rfl⟩) hl.1 rfl (Nat.le_of_ble_eq_true rfl) dX5_counted_99 (fun r_7 s_9 H locs hq hP hD hS => ?_)
          obtain ⟨hrr_7, hM, hf_8⟩ := hq
          have hrr_7 : r_7 = mAw N i := hrr_7
          have hf := hf.tr hf_8
          refine lv_istore (lv' := [(4, .int r_7), (2, .int (smI 0 (cntF N 4) i)), (3, .int (nI i)), (0, .ref (ad b)), (1, .int (nI 4))]) hx hb dX5_counted_102 hl (by decide) rfl (fun ls hl => ?_)
          refine lv_iload_n hx hb dX5_counted_104 rfl (lv_at hl 1 rfl) ?_
          refine lv_iload_n hx hb dX5_counted_105 rfl (lv_at hl 4 rfl) ?_
          refine lv_iconst (v := 4) hx hb dX5_counted_106 (by decide) ?_
          refine lv_icmp_ne (tgt := 122) hx hb dX5_counted_107 (by decide) (fun c107_9 => absurd (by decide) c107_9) (fun c107_9 => ?_)
          refine lv_aload_n hx hb dX5_counted_110 rfl (lv_at hl 3 rfl) ?_
          refine rg (v := .ref (ad (b + 1 + 0))) (T := TX5) (N := 14) (C := RX5) hx hb hts hinX5 hown hK hP hM rfl 0 (by decide) (hts (.fieldLink RX5 7 "NeedleGridModel" "now" "[I") (by decide +kernel)) rfl dX5_counted_111 ?_
          refine lv_bipush (v := 78) hx hb dX5_counted_114 (by decide) ?_
          refine lv_iload_n hx hb dX5_counted_116 rfl (lv_at hl 2 rfl) ?_
          refine lv_iadd hx hb dX5_counted_117 ?_
          rw [show 78 + nI i = nI (78 + i) from nI_add 78 i]
          refine ra (j := (78 + i)) (n := 186) hx hb hK hP hM 0 rfl (by omega) (by decide) dX5_counted_118 ?_
          refine lv_goto (tgt := 167) hx hb dX5_counted_119 (by decide) ?_
          refine lv_iadd hx hb dX5_counted_167 ?_
          refine lv_topi (fun x2_168 ex2_168 => ?_)
          have ex2_168 : x2_168 = (smI 0 (cntF N 4) i) + (N (78 + i)) := ex2_168
          refine lv_istore_n (lv' := [(2, .int x2_168), (4, .int r_7), (3, .int (nI i)), (0, .ref (ad b)), (1, .int (nI 4))]) hx hb dX5_counted_168 rfl hl (by decide) rfl (fun ls hl => ?_)
          refine lv_iinc (v := nI (i + 1)) (lv' := [(3, .int (nI (i + 1))), (2, .int x2_168), (4, .int r_7), (0, .ref (ad b)), (1, .int (nI 4))]) hx hb dX5_counted_169 hl (k := 2) rfl (nI_1 _) (by decide) rfl (fun ls hl => ?_)
          refine lv_goto (tgt := 87) hx hb dX5_counted_172 (by decide) ?_
          exact ih87 (i + 1) (by omega) (by omega) _ _ _ _ (gu (gu J9 12 (fun _ => LX N i)) 13 (fun _ => LY N i)) (hM.eq (all14 rfl rfl rfl rfl rfl rfl rfl rfl rfl rfl rfl rfl rfl rfl)) hf hP hD hS (by rw [show smI 0 (cntF N 4) (i + 1) = x2_168 from by rw [ex2_168, smI_s]; exact congrArg _ (cntF_4 (N := N) (k := i))]; exact lv_sub hl [1, 0, 3, 4] rfl)
    exact LP_4 (36 + 1) 0 (Nat.zero_le _) (by omega) _ _ _ _ J (hM.eq (all14 rfl rfl rfl rfl rfl rfl rfl rfl rfl rfl rfl rfl rfl rfl)) hf hP hD hS (lv_sub hl [1, 0, 2, 3] rfl)
  · refine lv_tableIn (x := nI 5) (off := 82) (tgt := 83) hx hb dX5_counted_1 (by decide) (by decide) rfl (by decide) ?_
    refine lv_iconst (v := 0) hx hb dX5_counted_83 (by decide) ?_
    refine lv_istore_n (lv' := [(2, .int 0), (0, .ref (ad b)), (1, .int (nI 5))]) hx hb dX5_counted_84 rfl hl (by decide) rfl (fun ls hl => ?_)
    refine lv_iconst (v := 0) hx hb dX5_counted_85 (by decide) ?_
    refine lv_istore_n (lv' := [(3, .int 0), (2, .int 0), (0, .ref (ad b)), (1, .int (nI 5))]) hx hb dX5_counted_86 rfl hl (by decide) rfl (fun ls hl => ?_)
    have LP_12 : ∀ (k9 i : Nat), i ≤ 36 → 36 - i < k9 → ∀ (sL_13 : NW) (H : Heap) (locs : List Loc) (ls : Array Slot) (J9 : Nat → Nat → Int32), isR E ad sL_13 b sM ((mG N P kp C n th J9)) → fr b st sL_13 → nP E ad sL_13 H → nD A ad sL_13 → va_S A s.heap H locs → lv_has ls 5 [(2, .int (smI 0 (cntF N 5) i)), (3, .int (nI i)), (0, .ref (ad b)), (1, .int (nI 5))] → W pg l en (nRm 8 189) s mi ar bw mth cd H locs 0 0 Q (F0 mi 87 ls []) := by
      intro k9
      induction k9 with
      | zero => intro i _ h9; exact absurd h9 (Nat.not_lt_zero _)
      | succ k9 ih87 =>
        intro i hi hk9 sL_13 H locs ls J9 hM hf hP hD hS hl
        refine lv_iload_n hx hb dX5_counted_87 rfl (lv_at hl 1 rfl) ?_
        refine lv_bipush (v := 36) hx hb dX5_counted_88 (by decide) ?_
        refine lv_icmp_ge (tgt := 175) hx hb dX5_counted_90 (by decide) (fun c90_13 => ?_) (fun c90_13 => ?_)
        · have h36 : 36 ≤ i := (nI_geL (n := 36) rfl (by decide) (by omega)).mp c90_13
          obtain rfl : i = 36 := by omega
          refine lv_iload_n hx hb dX5_counted_175 rfl (lv_at hl 0 rfl) ?_
          exact hret _ _ _ _ _ _ hP hD hS (⟨cnt5, ⟨J9, hM.eq (all14 rfl rfl rfl rfl rfl rfl rfl rfl rfl rfl rfl rfl rfl rfl)⟩, hf⟩) dX5_counted_176
        · have hlt : i < 36 := by have := mt (nI_geL (n := 36) (i := i) rfl (by decide) (by omega)).mpr c90_13; omega
          refine lv_aload_n hx hb dX5_counted_93 rfl (lv_at hl 2 rfl) ?_
          refine lv_aload_n hx hb dX5_counted_94 rfl (lv_at hl 2 rfl) ?_
          refine rg (v := .ref (ad (b + 1 + 0))) (T := TX5) (N := 14) (C := RX5) hx hb hts hinX5 hown hK hP hM rfl 0 (by decide) (hts (.fieldLink RX5 7 "NeedleGridModel" "now" "[I") (by decide +kernel)) rfl dX5_counted_95 ?_
          refine lv_iload_n hx hb dX5_counted_98 rfl (lv_at hl 1 rfl) ?_
          refine nVi (As := [.ref (ad (b + 1 + 0)), .int (nI i)]) (rest := _) hx hb hml hown hts hP hK hD hZ hA hS ⟨Nat.zero_le _, Nat.zero_le _⟩ hM.1 rfl (m_away0 l E ad sL_13 b (mG N P kp C n th J9) hM i (by omega) hdB) (cwV 2 hts gX5_counted_X5_away rfl rfl rfl (by decide +kernel) ⟨Nat.le_of_ble_eq_true rfl, Nat.le_of_ble_eq_true rfl⟩) hl.1 rfl (Nat.le_of_ble_eq_true rfl) dX5_counted_99 (fun r_15 s_17 H locs hq hP hD hS => ?_)
          obtain ⟨hrr_15, hM, hf_16⟩ := hq
          have hrr_15 : r_15 = mAw N i := hrr_15
          have hf := hf.tr hf_16
          refine lv_istore (lv' := [(4, .int r_15), (2, .int (smI 0 (cntF N 5) i)), (3, .int (nI i)), (0, .ref (ad b)), (1, .int (nI 5))]) hx hb dX5_counted_102 hl (by decide) rfl (fun ls hl => ?_)
          refine lv_iload_n hx hb dX5_counted_104 rfl (lv_at hl 1 rfl) ?_
          refine lv_iload_n hx hb dX5_counted_105 rfl (lv_at hl 4 rfl) ?_
          refine lv_iconst (v := 4) hx hb dX5_counted_106 (by decide) ?_
          refine lv_icmp_ne (tgt := 122) hx hb dX5_counted_107 (by decide) (fun c107_17 => ?_) (fun c107_17 => absurd c107_17 (by decide))
          refine lv_iload_n hx hb dX5_counted_122 rfl (lv_at hl 4 rfl) ?_
          refine lv_iconst (v := 5) hx hb dX5_counted_123 (by decide) ?_
          refine lv_icmp_ne (tgt := 137) hx hb dX5_counted_124 (by decide) (fun c124_18 => absurd (by decide) c124_18) (fun c124_18 => ?_)
          refine lv_aload_n hx hb dX5_counted_127 rfl (lv_at hl 3 rfl) ?_
          refine lv_iload_n hx hb dX5_counted_128 rfl (lv_at hl 2 rfl) ?_
          refine lv_bipush (v := 6) hx hb dX5_counted_129 (by decide) ?_
          refine nVi (As := [.int (nI i), .int 6]) (rest := _) hx hb hml hown hts hP hK hD hZ hA hS ⟨Nat.zero_le _, Nat.zero_le _⟩ hM.1 rfl (m_ofCell l E ad s_17 b N P kp C n th (gu (gu J9 12 (fun _ => LX N i)) 13 (fun _ => LY N i)) hkp hn hO (hM.eq (all14 rfl rfl rfl rfl rfl rfl rfl rfl rfl rfl rfl rfl rfl rfl)) i 6 (by omega) (by omega)) (cwV 2 hts gX5_counted_X5_ofCell rfl rfl rfl (by decide +kernel) ⟨Nat.le_of_ble_eq_true rfl, Nat.le_of_ble_eq_true rfl⟩) hl.1 rfl (Nat.le_of_ble_eq_true rfl) dX5_counted_131 (fun r_20 s_23 H locs hq hP hD hS => ?_)
          obtain ⟨hrr_20, ⟨J_22, hM⟩, hf_21⟩ := hq
          have hf := hf.tr hf_21
          refine lv_goto (tgt := 167) hx hb dX5_counted_134 (by decide) ?_
          refine lv_iadd hx hb dX5_counted_167 ?_
          refine lv_topi (fun x2_168 ex2_168 => ?_)
          have ex2_168 : x2_168 = (smI 0 (cntF N 5) i) + r_20 := ex2_168
          refine lv_istore_n (lv' := [(2, .int x2_168), (4, .int r_15), (3, .int (nI i)), (0, .ref (ad b)), (1, .int (nI 5))]) hx hb dX5_counted_168 rfl hl (by decide) rfl (fun ls hl => ?_)
          refine lv_iinc (v := nI (i + 1)) (lv' := [(3, .int (nI (i + 1))), (2, .int x2_168), (4, .int r_15), (0, .ref (ad b)), (1, .int (nI 5))]) hx hb dX5_counted_169 hl (k := 2) rfl (nI_1 _) (by decide) rfl (fun ls hl => ?_)
          refine lv_goto (tgt := 87) hx hb dX5_counted_172 (by decide) ?_
          exact ih87 (i + 1) (by omega) (by omega) _ _ _ _ J_22 (hM.eq (all14 rfl rfl rfl rfl rfl rfl rfl rfl rfl rfl rfl rfl rfl rfl)) hf hP hD hS (by rw [show smI 0 (cntF N 5) (i + 1) = x2_168 from by rw [ex2_168, smI_s]; exact congrArg _ ((cntF_5 (N := N) (k := i)).trans hrr_20.symm)]; exact lv_sub hl [1, 0, 3, 4] rfl)
    exact LP_12 (36 + 1) 0 (Nat.zero_le _) (by omega) _ _ _ _ J (hM.eq (all14 rfl rfl rfl rfl rfl rfl rfl rfl rfl rfl rfl rfl rfl rfl)) hf hP hD hS (lv_sub hl [1, 0, 2, 3] rfl)
  · refine lv_tableIn (x := nI 6) (off := 82) (tgt := 83) hx hb dX5_counted_1 (by decide) (by decide) rfl (by decide) ?_
    refine lv_iconst (v := 0) hx hb dX5_counted_83 (by decide) ?_
    refine lv_istore_n (lv' := [(2, .int 0), (0, .ref (ad b)), (1, .int (nI 6))]) hx hb dX5_counted_84 rfl hl (by decide) rfl (fun ls hl => ?_)
    refine lv_iconst (v := 0) hx hb dX5_counted_85 (by decide) ?_
    refine lv_istore_n (lv' := [(3, .int 0), (2, .int 0), (0, .ref (ad b)), (1, .int (nI 6))]) hx hb dX5_counted_86 rfl hl (by decide) rfl (fun ls hl => ?_)
    have LP_25 : ∀ (k9 i : Nat), i ≤ 36 → 36 - i < k9 → ∀ (sL_26 : NW) (H : Heap) (locs : List Loc) (ls : Array Slot) (J9 : Nat → Nat → Int32), isR E ad sL_26 b sM ((mG N P kp C n th J9)) → fr b st sL_26 → nP E ad sL_26 H → nD A ad sL_26 → va_S A s.heap H locs → lv_has ls 5 [(2, .int (smI 0 (cntF N 6) i)), (3, .int (nI i)), (0, .ref (ad b)), (1, .int (nI 6))] → W pg l en (nRm 8 189) s mi ar bw mth cd H locs 0 0 Q (F0 mi 87 ls []) := by
      intro k9
      induction k9 with
      | zero => intro i _ h9; exact absurd h9 (Nat.not_lt_zero _)
      | succ k9 ih87 =>
        intro i hi hk9 sL_26 H locs ls J9 hM hf hP hD hS hl
        refine lv_iload_n hx hb dX5_counted_87 rfl (lv_at hl 1 rfl) ?_
        refine lv_bipush (v := 36) hx hb dX5_counted_88 (by decide) ?_
        refine lv_icmp_ge (tgt := 175) hx hb dX5_counted_90 (by decide) (fun c90_26 => ?_) (fun c90_26 => ?_)
        · have h36 : 36 ≤ i := (nI_geL (n := 36) rfl (by decide) (by omega)).mp c90_26
          obtain rfl : i = 36 := by omega
          refine lv_iload_n hx hb dX5_counted_175 rfl (lv_at hl 0 rfl) ?_
          exact hret _ _ _ _ _ _ hP hD hS (⟨cnt6 hO, ⟨J9, hM.eq (all14 rfl rfl rfl rfl rfl rfl rfl rfl rfl rfl rfl rfl rfl rfl)⟩, hf⟩) dX5_counted_176
        · have hlt : i < 36 := by have := mt (nI_geL (n := 36) (i := i) rfl (by decide) (by omega)).mpr c90_26; omega
          refine lv_aload_n hx hb dX5_counted_93 rfl (lv_at hl 2 rfl) ?_
          refine lv_aload_n hx hb dX5_counted_94 rfl (lv_at hl 2 rfl) ?_
          refine rg (v := .ref (ad (b + 1 + 0))) (T := TX5) (N := 14) (C := RX5) hx hb hts hinX5 hown hK hP hM rfl 0 (by decide) (hts (.fieldLink RX5 7 "NeedleGridModel" "now" "[I") (by decide +kernel)) rfl dX5_counted_95 ?_
          refine lv_iload_n hx hb dX5_counted_98 rfl (lv_at hl 1 rfl) ?_
          refine nVi (As := [.ref (ad (b + 1 + 0)), .int (nI i)]) (rest := _) hx hb hml hown hts hP hK hD hZ hA hS ⟨Nat.zero_le _, Nat.zero_le _⟩ hM.1 rfl (m_away0 l E ad sL_26 b (mG N P kp C n th J9) hM i (by omega) hdB) (cwV 2 hts gX5_counted_X5_away rfl rfl rfl (by decide +kernel) ⟨Nat.le_of_ble_eq_true rfl, Nat.le_of_ble_eq_true rfl⟩) hl.1 rfl (Nat.le_of_ble_eq_true rfl) dX5_counted_99 (fun r_28 s_30 H locs hq hP hD hS => ?_)
          obtain ⟨hrr_28, hM, hf_29⟩ := hq
          have hrr_28 : r_28 = mAw N i := hrr_28
          have hf := hf.tr hf_29
          refine lv_istore (lv' := [(4, .int r_28), (2, .int (smI 0 (cntF N 6) i)), (3, .int (nI i)), (0, .ref (ad b)), (1, .int (nI 6))]) hx hb dX5_counted_102 hl (by decide) rfl (fun ls hl => ?_)
          refine lv_iload_n hx hb dX5_counted_104 rfl (lv_at hl 1 rfl) ?_
          refine lv_iload_n hx hb dX5_counted_105 rfl (lv_at hl 4 rfl) ?_
          refine lv_iconst (v := 4) hx hb dX5_counted_106 (by decide) ?_
          refine lv_icmp_ne (tgt := 122) hx hb dX5_counted_107 (by decide) (fun c107_30 => ?_) (fun c107_30 => absurd c107_30 (by decide))
          refine lv_iload_n hx hb dX5_counted_122 rfl (lv_at hl 4 rfl) ?_
          refine lv_iconst (v := 5) hx hb dX5_counted_123 (by decide) ?_
          refine lv_icmp_ne (tgt := 137) hx hb dX5_counted_124 (by decide) (fun c124_31 => ?_) (fun c124_31 => absurd c124_31 (by decide))
          refine lv_iload_n hx hb dX5_counted_137 rfl (lv_at hl 4 rfl) ?_
          refine lv_bipush (v := 6) hx hb dX5_counted_138 (by decide) ?_
          refine lv_icmp_ne (tgt := 156) hx hb dX5_counted_140 (by decide) (fun c140_32 => absurd (by decide) c140_32) (fun c140_32 => ?_)
          refine lv_iload hx hb dX5_counted_143 (lv_at hl 0 rfl) ?_
          refine lv_if_ne (tgt := 152) hx hb dX5_counted_145 (by decide) (fun c145_33 => ?_) (fun c145_33 => ?_)
          · refine lv_iconst (v := 0) hx hb dX5_counted_152 (by decide) ?_
            refine lv_goto (tgt := 167) hx hb dX5_counted_153 (by decide) ?_
            refine lv_iadd hx hb dX5_counted_167 ?_
            refine lv_topi (fun x2_168 ex2_168 => ?_)
            have ex2_168 : x2_168 = (smI 0 (cntF N 6) i) + 0 := ex2_168
            refine lv_istore_n (lv' := [(2, .int x2_168), (4, .int r_28), (3, .int (nI i)), (0, .ref (ad b)), (1, .int (nI 6))]) hx hb dX5_counted_168 rfl hl (by decide) rfl (fun ls hl => ?_)
            refine lv_iinc (v := nI (i + 1)) (lv' := [(3, .int (nI (i + 1))), (2, .int x2_168), (4, .int r_28), (0, .ref (ad b)), (1, .int (nI 6))]) hx hb dX5_counted_169 hl (k := 2) rfl (nI_1 _) (by decide) rfl (fun ls hl => ?_)
            refine lv_goto (tgt := 87) hx hb dX5_counted_172 (by decide) ?_
            exact ih87 (i + 1) (by omega) (by omega) _ _ _ _ (gu (gu J9 12 (fun _ => LX N i)) 13 (fun _ => LY N i)) (hM.eq (all14 rfl rfl rfl rfl rfl rfl rfl rfl rfl rfl rfl rfl rfl rfl)) hf hP hD hS (by rw [show smI 0 (cntF N 6) (i + 1) = x2_168 from by rw [ex2_168, smI_s]; exact congrArg _ (show cntF N 6 i = 0 by rw [cntF_6, if_neg (by rw [← hrr_28]; exact c145_33)])]; exact lv_sub hl [1, 0, 3, 4] rfl)
          · refine lv_iconst (v := 1) hx hb dX5_counted_148 (by decide) ?_
            refine lv_goto (tgt := 167) hx hb dX5_counted_149 (by decide) ?_
            refine lv_iadd hx hb dX5_counted_167 ?_
            refine lv_topi (fun x2_168 ex2_168 => ?_)
            have ex2_168 : x2_168 = (smI 0 (cntF N 6) i) + 1 := ex2_168
            refine lv_istore_n (lv' := [(2, .int x2_168), (4, .int r_28), (3, .int (nI i)), (0, .ref (ad b)), (1, .int (nI 6))]) hx hb dX5_counted_168 rfl hl (by decide) rfl (fun ls hl => ?_)
            refine lv_iinc (v := nI (i + 1)) (lv' := [(3, .int (nI (i + 1))), (2, .int x2_168), (4, .int r_28), (0, .ref (ad b)), (1, .int (nI 6))]) hx hb dX5_counted_169 hl (k := 2) rfl (nI_1 _) (by decide) rfl (fun ls hl => ?_)
            refine lv_goto (tgt := 87) hx hb dX5_counted_172 (by decide) ?_
            exact ih87 (i + 1) (by omega) (by omega) _ _ _ _ (gu (gu J9 12 (fun _ => LX N i)) 13 (fun _ => LY N i)) (hM.eq (all14 rfl rfl rfl rfl rfl rfl rfl rfl rfl rfl rfl rfl rfl rfl)) hf hP hD hS (by rw [show smI 0 (cntF N 6) (i + 1) = x2_168 from by rw [ex2_168, smI_s]; exact congrArg _ (show cntF N 6 i = 1 by rw [cntF_6, if_pos (by rw [← hrr_28]; exact c145_33)])]; exact lv_sub hl [1, 0, 3, 4] rfl)
    exact LP_25 (36 + 1) 0 (Nat.zero_le _) (by omega) _ _ _ _ J (hM.eq (all14 rfl rfl rfl rfl rfl rfl rfl rfl rfl rfl rfl rfl rfl rfl)) hf hP hD hS (lv_sub hl [1, 0, 2, 3] rfl)
  · refine lv_tableIn (x := nI 7) (off := 82) (tgt := 83) hx hb dX5_counted_1 (by decide) (by decide) rfl (by decide) ?_
    refine lv_iconst (v := 0) hx hb dX5_counted_83 (by decide) ?_
    refine lv_istore_n (lv' := [(2, .int 0), (0, .ref (ad b)), (1, .int (nI 7))]) hx hb dX5_counted_84 rfl hl (by decide) rfl (fun ls hl => ?_)
    refine lv_iconst (v := 0) hx hb dX5_counted_85 (by decide) ?_
    refine lv_istore_n (lv' := [(3, .int 0), (2, .int 0), (0, .ref (ad b)), (1, .int (nI 7))]) hx hb dX5_counted_86 rfl hl (by decide) rfl (fun ls hl => ?_)
    have LP_37 : ∀ (k9 i : Nat), i ≤ 36 → 36 - i < k9 → ∀ (sL_38 : NW) (H : Heap) (locs : List Loc) (ls : Array Slot) (J9 : Nat → Nat → Int32), isR E ad sL_38 b sM ((mG N P kp C n th J9)) → fr b st sL_38 → nP E ad sL_38 H → nD A ad sL_38 → va_S A s.heap H locs → lv_has ls 5 [(2, .int (smI 0 (cntF N 7) i)), (3, .int (nI i)), (0, .ref (ad b)), (1, .int (nI 7))] → W pg l en (nRm 8 189) s mi ar bw mth cd H locs 0 0 Q (F0 mi 87 ls []) := by
      intro k9
      induction k9 with
      | zero => intro i _ h9; exact absurd h9 (Nat.not_lt_zero _)
      | succ k9 ih87 =>
        intro i hi hk9 sL_38 H locs ls J9 hM hf hP hD hS hl
        refine lv_iload_n hx hb dX5_counted_87 rfl (lv_at hl 1 rfl) ?_
        refine lv_bipush (v := 36) hx hb dX5_counted_88 (by decide) ?_
        refine lv_icmp_ge (tgt := 175) hx hb dX5_counted_90 (by decide) (fun c90_38 => ?_) (fun c90_38 => ?_)
        · have h36 : 36 ≤ i := (nI_geL (n := 36) rfl (by decide) (by omega)).mp c90_38
          obtain rfl : i = 36 := by omega
          refine lv_iload_n hx hb dX5_counted_175 rfl (lv_at hl 0 rfl) ?_
          exact hret _ _ _ _ _ _ hP hD hS (⟨cnt7 hO, ⟨J9, hM.eq (all14 rfl rfl rfl rfl rfl rfl rfl rfl rfl rfl rfl rfl rfl rfl)⟩, hf⟩) dX5_counted_176
        · have hlt : i < 36 := by have := mt (nI_geL (n := 36) (i := i) rfl (by decide) (by omega)).mpr c90_38; omega
          refine lv_aload_n hx hb dX5_counted_93 rfl (lv_at hl 2 rfl) ?_
          refine lv_aload_n hx hb dX5_counted_94 rfl (lv_at hl 2 rfl) ?_
          refine rg (v := .ref (ad (b + 1 + 0))) (T := TX5) (N := 14) (C := RX5) hx hb hts hinX5 hown hK hP hM rfl 0 (by decide) (hts (.fieldLink RX5 7 "NeedleGridModel" "now" "[I") (by decide +kernel)) rfl dX5_counted_95 ?_
          refine lv_iload_n hx hb dX5_counted_98 rfl (lv_at hl 1 rfl) ?_
          refine nVi (As := [.ref (ad (b + 1 + 0)), .int (nI i)]) (rest := _) hx hb hml hown hts hP hK hD hZ hA hS ⟨Nat.zero_le _, Nat.zero_le _⟩ hM.1 rfl (m_away0 l E ad sL_38 b (mG N P kp C n th J9) hM i (by omega) hdB) (cwV 2 hts gX5_counted_X5_away rfl rfl rfl (by decide +kernel) ⟨Nat.le_of_ble_eq_true rfl, Nat.le_of_ble_eq_true rfl⟩) hl.1 rfl (Nat.le_of_ble_eq_true rfl) dX5_counted_99 (fun r_40 s_42 H locs hq hP hD hS => ?_)
          obtain ⟨hrr_40, hM, hf_41⟩ := hq
          have hrr_40 : r_40 = mAw N i := hrr_40
          have hf := hf.tr hf_41
          refine lv_istore (lv' := [(4, .int r_40), (2, .int (smI 0 (cntF N 7) i)), (3, .int (nI i)), (0, .ref (ad b)), (1, .int (nI 7))]) hx hb dX5_counted_102 hl (by decide) rfl (fun ls hl => ?_)
          refine lv_iload_n hx hb dX5_counted_104 rfl (lv_at hl 1 rfl) ?_
          refine lv_iload_n hx hb dX5_counted_105 rfl (lv_at hl 4 rfl) ?_
          refine lv_iconst (v := 4) hx hb dX5_counted_106 (by decide) ?_
          refine lv_icmp_ne (tgt := 122) hx hb dX5_counted_107 (by decide) (fun c107_42 => ?_) (fun c107_42 => absurd c107_42 (by decide))
          refine lv_iload_n hx hb dX5_counted_122 rfl (lv_at hl 4 rfl) ?_
          refine lv_iconst (v := 5) hx hb dX5_counted_123 (by decide) ?_
          refine lv_icmp_ne (tgt := 137) hx hb dX5_counted_124 (by decide) (fun c124_43 => ?_) (fun c124_43 => absurd c124_43 (by decide))
          refine lv_iload_n hx hb dX5_counted_137 rfl (lv_at hl 4 rfl) ?_
          refine lv_bipush (v := 6) hx hb dX5_counted_138 (by decide) ?_
          refine lv_icmp_ne (tgt := 156) hx hb dX5_counted_140 (by decide) (fun c140_44 => ?_) (fun c140_44 => absurd c140_44 (by decide))
          refine lv_iload hx hb dX5_counted_156 (lv_at hl 0 rfl) ?_
          refine lv_if_le (tgt := 166) hx hb dX5_counted_158 (by decide) (fun c158_45 => ?_) (fun c158_45 => ?_)
          · refine lv_iconst (v := 0) hx hb dX5_counted_166 (by decide) ?_
            refine lv_iadd hx hb dX5_counted_167 ?_
            refine lv_topi (fun x2_168 ex2_168 => ?_)
            have ex2_168 : x2_168 = (smI 0 (cntF N 7) i) + 0 := ex2_168
            refine lv_istore_n (lv' := [(2, .int x2_168), (4, .int r_40), (3, .int (nI i)), (0, .ref (ad b)), (1, .int (nI 7))]) hx hb dX5_counted_168 rfl hl (by decide) rfl (fun ls hl => ?_)
            refine lv_iinc (v := nI (i + 1)) (lv' := [(3, .int (nI (i + 1))), (2, .int x2_168), (4, .int r_40), (0, .ref (ad b)), (1, .int (nI 7))]) hx hb dX5_counted_169 hl (k := 2) rfl (nI_1 _) (by decide) rfl (fun ls hl => ?_)
            refine lv_goto (tgt := 87) hx hb dX5_counted_172 (by decide) ?_
            exact ih87 (i + 1) (by omega) (by omega) _ _ _ _ (gu (gu J9 12 (fun _ => LX N i)) 13 (fun _ => LY N i)) (hM.eq (all14 rfl rfl rfl rfl rfl rfl rfl rfl rfl rfl rfl rfl rfl rfl)) hf hP hD hS (by rw [show smI 0 (cntF N 7) (i + 1) = x2_168 from by rw [ex2_168, smI_s]; exact congrArg _ (show cntF N 7 i = 0 by rw [cntF_7, ← hrr_40, if_pos c158_45])]; exact lv_sub hl [1, 0, 3, 4] rfl)
          · refine lv_iload hx hb dX5_counted_161 (lv_at hl 0 rfl) ?_
            refine lv_goto (tgt := 167) hx hb dX5_counted_163 (by decide) ?_
            refine lv_iadd hx hb dX5_counted_167 ?_
            refine lv_topi (fun x2_168 ex2_168 => ?_)
            have ex2_168 : x2_168 = (smI 0 (cntF N 7) i) + r_40 := ex2_168
            refine lv_istore_n (lv' := [(2, .int x2_168), (4, .int r_40), (3, .int (nI i)), (0, .ref (ad b)), (1, .int (nI 7))]) hx hb dX5_counted_168 rfl hl (by decide) rfl (fun ls hl => ?_)
            refine lv_iinc (v := nI (i + 1)) (lv' := [(3, .int (nI (i + 1))), (2, .int x2_168), (4, .int r_40), (0, .ref (ad b)), (1, .int (nI 7))]) hx hb dX5_counted_169 hl (k := 2) rfl (nI_1 _) (by decide) rfl (fun ls hl => ?_)
            refine lv_goto (tgt := 87) hx hb dX5_counted_172 (by decide) ?_
            exact ih87 (i + 1) (by omega) (by omega) _ _ _ _ (gu (gu J9 12 (fun _ => LX N i)) 13 (fun _ => LY N i)) (hM.eq (all14 rfl rfl rfl rfl rfl rfl rfl rfl rfl rfl rfl rfl rfl rfl)) hf hP hD hS (by rw [show smI 0 (cntF N 7) (i + 1) = x2_168 from by rw [ex2_168, smI_s]; exact congrArg _ (show cntF N 7 i = r_40 by rw [cntF_7, ← hrr_40, if_neg c158_45])]; exact lv_sub hl [1, 0, 3, 4] rfl)
    exact LP_37 (36 + 1) 0 (Nat.zero_le _) (by omega) _ _ _ _ J (hM.eq (all14 rfl rfl rfl rfl rfl rfl rfl rfl rfl rfl rfl rfl rfl rfl)) hf hP hD hS (lv_sub hl [1, 0, 2, 3] rfl)
  · refine lv_tableIn (x := nI 8) (off := 77) (tgt := 78) hx hb dX5_counted_1 (by decide) (by decide) rfl (by decide) ?_
    refine lv_aload_n hx hb dX5_counted_78 rfl (lv_at hl 0 rfl) ?_
    refine rg (v := .int (nI kp)) (T := TX5) (N := 14) (C := RX5) hx hb hts hinX5 hown hK hP hM rfl 3 (by decide) (hts (.fieldLink RX5 36 "NeedleGridModel" "kept" "I") (by decide +kernel)) rfl dX5_counted_79 ?_
    exact hret _ _ _ _ _ _ hP hD hS (⟨rfl, ⟨J, hM.eq (all14 rfl rfl rfl rfl rfl rfl rfl rfl rfl rfl rfl rfl rfl rfl)⟩, hf⟩) dX5_counted_82
